import java.math.BigInteger;
import java.util.ArrayDeque;
import java.util.ArrayList;
import java.util.Arrays;
import java.util.Comparator;
import java.util.Deque;
import java.util.HashMap;
import java.util.List;
import java.util.Map;
import java.util.regex.Matcher;
import java.util.regex.Pattern;

/**
 * A second program for the same document, in another way: states that never change, lists, regular expressions,
 * big fractions by one train after another. The class is compared with it.
 */
final class Model {
    private static final int BAD = -1, STATE = -2, FULL = -3, NONE = -9, NO = -1000000;

    private record Train(int hour, int crowd, int likes, boolean stopped) {
        Train asStopped() {
            return new Train(hour, crowd, likes, true);
        }
    }

    private record Group(int many, int first, int second, boolean rug) {
    }

    private record State(int hour, int buns, int fog, List<Integer> votes, List<Train> trains, List<Group> groups) {
    }

    private record Kept(State state, List<State> past) {
    }


    private static final class Fault extends Exception {
        private static final long serialVersionUID = 1;
        final int place;

        Fault(int place) {
            this.place = place;
        }
    }

    private int candidates = 3;
    private int left = 2;
    private State state = new State(0, 3, 0, List.of(0, 0, 0), List.of(), List.of());
    private Deque<State> past = new ArrayDeque<>();
    private final Map<Integer, Kept> images = new HashMap<>();
    private final List<int[]> heard = new ArrayList<>();
    private String text = "";
    private long trace = 0;

    long answer(String call, int a, int b, int c) {
        switch (call) {
            case "type": return type(a);
            case "clear": return clear();
            case "town": return town();
            case "train": return train(a, b);
            case "group": return group(a, b);
            case "votes": return votes(a, b);
            case "hour": return hour();
            case "holds": return holds(a);
            case "canvasses": return canvasses(a, b);
            case "fog": return fog(a);
            case "rugs": return rugs(a);
            case "undo": return undo();
            case "now": return now(a);
            case "plan": return plan(a, b);
            case "power": return power(a);
            case "laws": return laws(a);
            case "odds": return odds(a, b, c);
            case "hears": return hears(a, b);
            case "forget": return forget();
            case "likings": return likings(a);
            case "ask": return ask();
            case "mark": return mark(a, b);
            case "keep": return keep(a);
            case "back": return back(a);
            case "count": return count(a);
            default: return trace;
        }
    }

    private boolean isTrain(int t) {
        return t >= 0 && t < state.trains.size();
    }

    private boolean isGroup(int r) {
        return r >= 0 && r < state.groups.size();
    }

    private boolean isCandidate(int c) {
        return c >= 0 && c < candidates;
    }

    private static boolean isBit(int i) {
        return i == 0 || i == 1;
    }

    private int type(int c) {
        if (c < 0 || c > 255) return BAD;
        if (text.length() == 120) return FULL;
        text += (char) c;
        return text.length();
    }

    private int clear() {
        int had = text.length();
        text = "";
        return had;
    }

    private int town() {
        try {
            return read();
        } catch (Fault fault) {
            return -10 - fault.place;
        }
    }

    private static final Pattern TOKEN = Pattern.compile(" *([a-z]+|[0-9]+|;|[^ ]|$)", Pattern.DOTALL);

    private int read() throws Fault {
        int n = 3, l = 2, b = 3;
        List<Train> trains = new ArrayList<>();
        List<Group> groups = new ArrayList<>();
        Matcher m = TOKEN.matcher(text);
        int items = 0;
        while (m.find() && !m.group(1).isEmpty()) {
            String letters = m.group(1);
            int place = m.start(1);
            if (letters.equals("c")) {
                if (items > 0) throw new Fault(place);
                n = number(m, 2, 6);
                l = number(m, 1, n);
                b = number(m, 0, 20);
            } else if (letters.equals("t")) {
                if (trains.size() == 8) throw new Fault(place);
                trains.add(new Train(number(m, 0, 23), number(m, 1, 30), number(m, 0, n - 1), false));
            } else if (letters.equals("r")) {
                if (groups.size() == 6) throw new Fault(place);
                int many = number(m, 1, 30);
                int first = number(m, 0, n - 1);
                int second = number(m, 0, n - 1);
                if (first == second) throw new Fault(m.start(1));
                groups.add(new Group(many, first, second, false));
            } else {
                throw new Fault(place);
            }
            if (!m.find() || !m.group(1).equals(";")) throw new Fault(m.start(1));
            items++;
        }
        candidates = n;
        left = l;
        Integer[] none = new Integer[n];
        Arrays.fill(none, 0);
        state = new State(0, b, 0, List.of(none), List.copyOf(trains), List.copyOf(groups));
        past.clear();
        images.clear();
        heard.clear();
        text = "";
        return items;
    }

    private static int number(Matcher m, int least, int most) throws Fault {
        if (!m.find()) throw new IllegalStateException("the end is a token that is found");
        if (!m.group(1).matches("0|[1-9][0-9]?")) throw new Fault(m.start(1));
        int value = Integer.parseInt(m.group(1));
        if (value < least || value > most) throw new Fault(m.start(1));
        return value;
    }

    private int train(int t, int what) {
        if (!isTrain(t) || what < 0 || what > 3) return BAD;
        Train train = state.trains.get(t);
        return new int[] {train.hour, train.crowd, train.likes, train.stopped ? 1 : 0}[what];
    }

    private int group(int r, int what) {
        if (!isGroup(r) || what < 0 || what > 3) return BAD;
        Group group = state.groups.get(r);
        return new int[] {group.many, group.first, group.second, group.rug ? 1 : 0}[what];
    }

    private List<Train> open() {
        List<Train> open = new ArrayList<>();
        for (Train train : state.trains) {
            if (!train.stopped && train.hour >= state.hour) open.add(train);
        }
        return open;
    }

    private static List<Integer> with(List<Integer> votes, List<Train> stopping) {
        List<Integer> sums = new ArrayList<>(votes);
        for (Train train : stopping) sums.set(train.likes, sums.get(train.likes) + train.crowd);
        return sums;
    }

    private int votes(int c, int end) {
        if (!isCandidate(c) || !isBit(end)) return BAD;
        return (end == 0 ? state.votes : with(state.votes, open())).get(c);
    }

    private List<Integer> who(List<Integer> sums, int many) {
        List<Integer> order = new ArrayList<>();
        for (int c = 0; c < candidates; c++) order.add(c);
        order.sort(Comparator.<Integer>comparingInt(c -> -sums.get(c)).thenComparingInt(c -> c));
        List<Integer> those = new ArrayList<>(order.subList(0, many));
        those.sort(null);
        return those;
    }

    private int winner(List<Integer> sums, int many) {
        List<Integer> those = who(sums, many);
        Map<Integer, Integer> ballots = new HashMap<>();
        for (Group group : state.groups) {
            if (group.rug) continue;
            int whom = those.contains(group.first) ? group.first
                : those.contains(group.second) ? group.second : those.get(0);
            ballots.merge(whom, group.many, Integer::sum);
        }
        int best = those.get(0);
        for (int c : those) {
            if (ballots.getOrDefault(c, 0) > ballots.getOrDefault(best, 0)) best = c;
        }
        return best;
    }

    private void done(State next) {
        past.addLast(state);
        if (past.size() > 10) past.removeFirst();
        state = next;
    }

    private int hour() {
        if (state.hour == 24) return STATE;
        List<Train> stopping = new ArrayList<>();
        List<Train> trains = new ArrayList<>();
        for (Train train : state.trains) {
            boolean stops = state.fog == 0 && !train.stopped && train.hour == state.hour;
            if (stops) stopping.add(train);
            trains.add(stops ? train.asStopped() : train);
        }
        done(new State(state.hour + 1, state.buns, state.fog, with(state.votes, stopping), trains, state.groups));
        return stopping.size();
    }

    private void change(int t, Train to, int buns) {
        List<Train> trains = new ArrayList<>(state.trains);
        trains.set(t, to);
        done(new State(state.hour, buns, state.fog, state.votes, trains, state.groups));
    }

    private int holds(int t) {
        if (!isTrain(t)) return BAD;
        Train train = state.trains.get(t);
        if (train.stopped || train.hour == 23 || train.hour < state.hour) return STATE;
        change(t, new Train(train.hour + 1, train.crowd, train.likes, false), state.buns);
        return train.hour + 1;
    }

    private int canvasses(int t, int c) {
        if (!isTrain(t) || !isCandidate(c)) return BAD;
        Train train = state.trains.get(t);
        if (train.stopped || train.likes == c || state.buns == 0) return STATE;
        change(t, new Train(train.hour, train.crowd, c, false), state.buns - 1);
        return state.buns;
    }

    private int fog(int is) {
        if (!isBit(is)) return BAD;
        if (state.fog == is) return STATE;
        done(new State(state.hour, state.buns, is, state.votes, state.trains, state.groups));
        return (int) state.trains.stream().filter(train -> !train.stopped).count();
    }

    private int rugs(int r) {
        if (!isGroup(r)) return BAD;
        Group group = state.groups.get(r);
        if (group.rug) return STATE;
        List<Group> groups = new ArrayList<>(state.groups);
        groups.set(r, new Group(group.many, group.first, group.second, true));
        List<Integer> votes = new ArrayList<>(state.votes);
        votes.set(group.first, votes.get(group.first) + group.many);
        done(new State(state.hour, state.buns, state.fog, votes, state.trains, groups));
        return votes.get(group.first);
    }

    private int undo() {
        if (past.isEmpty()) return STATE;
        state = past.removeLast();
        return past.size();
    }

    private static int bits(List<Integer> numbers) {
        int bits = 0;
        for (int number : numbers) bits += 1 << number;
        return bits;
    }

    private int now(int what) {
        List<Integer> end = with(state.votes, open());
        switch (what) {
            case 0: return state.hour;
            case 1: return state.buns;
            case 2: return state.fog;
            case 3: return bits(who(state.votes, left));
            case 4: return bits(who(end, left));
            case 5: return winner(state.votes, left);
            case 6: return winner(end, left);
            default: return BAD;
        }
    }

    private int plan(int c, int by) {
        if (!isCandidate(c) || !isCandidate(by)) return BAD;
        int best = NONE;
        for (int set = 0; set < 1 << state.trains.size(); set++) {
            int size = Integer.bitCount(set);
            if (size > state.buns || best != NONE && size >= Integer.bitCount(best)) continue;
            List<Train> stopping = new ArrayList<>();
            boolean may = true;
            for (int t = 0; t < state.trains.size(); t++) {
                Train train = state.trains.get(t);
                boolean isOpen = !train.stopped && train.hour >= state.hour;
                boolean isIn = (set >> t) % 2 == 1;
                if (isIn && (!isOpen || train.likes == by)) may = false;
                if (isOpen) stopping.add(isIn ? new Train(train.hour, train.crowd, by, false) : train);
            }
            if (may && winner(with(state.votes, stopping), left) == c) best = set;
        }
        return best;
    }

    private int power(int t) {
        if (!isTrain(t)) return BAD;
        Train it = state.trains.get(t);
        if (it.stopped || it.hour < state.hour) return STATE;
        List<Train> others = open();
        // Trains that are alike in all stand for one another, so any one of them may go.
        others.remove(it);
        return decided(it, others, 0, new ArrayList<>());
    }

    private int decided(Train it, List<Train> others, int from, List<Train> stopping) {
        if (from == others.size()) {
            List<Integer> without = with(state.votes, stopping);
            return winner(without, left) == winner(with(without, List.of(it)), left) ? 0 : 1;
        }
        int left = decided(it, others, from + 1, stopping);
        List<Train> more = new ArrayList<>(stopping);
        more.add(others.get(from));
        return left + decided(it, others, from + 1, more);
    }

    private int laws(int c) {
        if (!isCandidate(c)) return BAD;
        List<Integer> lawful = new ArrayList<>();
        for (int many = 1; many <= candidates; many++) {
            if (winner(with(state.votes, open()), many) == c) lawful.add(many);
        }
        return bits(lawful);
    }

    private int odds(int x, int c, int what) {
        if (x < 0 || x > 10 || !isCandidate(c) || !isBit(what)) return BAD;
        List<Train> open = open();
        BigInteger upper = chance(x, c, open, 0, state.votes);
        BigInteger lower = BigInteger.TEN.pow(open.size());
        return (what == 0 ? upper : lower).divide(upper.gcd(lower)).intValueExact();
    }

    private BigInteger chance(int x, int c, List<Train> open, int from, List<Integer> sums) {
        if (from == open.size()) return winner(sums, left) == c ? BigInteger.ONE : BigInteger.ZERO;
        BigInteger fog = chance(x, c, open, from + 1, sums);
        BigInteger stops = chance(x, c, open, from + 1, with(sums, List.of(open.get(from))));
        return fog.multiply(BigInteger.valueOf(x)).add(stops.multiply(BigInteger.valueOf(10 - x)));
    }

    private int hears(int a, int b) {
        if (!isCandidate(a) || !isCandidate(b) || a == b) return BAD;
        if (heard.size() == 4) return FULL;
        heard.add(new int[] {a, b});
        return heard.size();
    }

    private int forget() {
        int had = heard.size();
        heard.clear();
        return had;
    }

    private static int choice(int liking, int a, int b) {
        for (int likes : new int[] {liking / 10, liking % 10}) {
            if (likes == a || likes == b) return likes;
        }
        return a < b ? a : b;
    }

    private List<Integer> fitting() {
        List<Integer> fitting = new ArrayList<>();
        for (int liking = 1; liking < 10 * candidates; liking++) {
            if (liking % 10 >= candidates || liking / 10 == liking % 10) continue;
            boolean fits = true;
            for (int[] pair : heard) fits &= choice(liking, pair[0], pair[1]) == pair[0];
            if (fits) fitting.add(liking);
        }
        return fitting;
    }

    private int likings(int what) {
        if (!isBit(what)) return BAD;
        List<Integer> fitting = fitting();
        if (what == 0) return fitting.size();
        return fitting.isEmpty() ? NONE : fitting.get(0);
    }

    private int ask() {
        List<Integer> fitting = fitting();
        int best = NONE;
        int least = Integer.MAX_VALUE;
        for (int pair = 1; pair < 10 * candidates; pair++) {
            int a = pair / 10, b = pair % 10;
            if (b >= candidates || a >= b) continue;
            int forA = 0, forB = 0;
            for (int liking : fitting) {
                if (choice(liking, a, b) == a) forA++;
                else forB++;
            }
            if (forA == 0 || forB == 0) continue;
            if (Math.max(forA, forB) < least) {
                least = Math.max(forA, forB);
                best = pair;
            }
        }
        return best;
    }

    private int mark(int kind, int c) {
        if (kind < 0 || kind > 5 || !isCandidate(c)) return NO;
        int likers = 0;
        for (Train train : state.trains) if (!train.stopped && train.likes == c) likers++;
        int firsts = 0;
        for (Group group : state.groups) if (group.first == c) firsts++;
        int one = state.votes.get(c);
        int[] marks = {one, one + likers, one - firsts, 2 * (one + likers), one - firsts + c, one + state.hour};
        trace += new long[] {1, 11, 101, 1011, 10101, 100001}[kind];
        return marks[kind];
    }

    private int keep(int image) {
        if (!isBit(image)) return BAD;
        images.put(image, new Kept(state, List.copyOf(past)));
        return state.hour;
    }

    private int back(int image) {
        if (!isBit(image)) return BAD;
        Kept kept = images.get(image);
        if (kept == null) return STATE;
        state = kept.state;
        past = new ArrayDeque<>(kept.past);
        return state.hour;
    }

    private int count(int what) {
        if (what < 0 || what > 6) return BAD;
        return new int[] {candidates, left, state.trains.size(), state.groups.size(), heard.size(), past.size(),
            text.length()}[what];
    }
}
