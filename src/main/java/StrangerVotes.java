/**
 * A transit town where strangers, who are between trains, vote first, and residents second on what is left.
 * What each call promises is told in ../shared/DOC.md. All rows are made in the constructor and used again,
 * so that no call makes an object.
 */
public final class StrangerVotes {
    public static final int BAD = -1, STATE = -2, FULL = -3, NONE = -9;
    public static final int NO = -1000000;

    private static final int MOST_CANDIDATES = 6;
    private static final int MOST_TRAINS = 8;
    private static final int MOST_GROUPS = 6;
    private static final int MOST_BUNS = 20;
    private static final int MOST_PEOPLE = 30;
    private static final int MOST_BYTES = 120;
    private static final int MOST_KNOWN = 10;
    private static final int MOST_HEARD = 4;
    private static final int LAST_HOUR = 23;

    private Town town = new Town();
    private Town draft = new Town();
    private final Text text = new Text();
    private final Now today = new Now();
    private final Past past = new Past();
    private final Ballot ballot = new Ballot();
    private final Hearsay hearsay = new Hearsay();
    private final Image imageZero = new Image();
    private final Image imageOne = new Image();
    private long bodies = 0;

    public StrangerVotes() {
    }

    // ---- the town

    public int type(int c) {
        if (!isIn(c, 256)) return BAD;
        if (text.length >= MOST_BYTES) return FULL;
        text.append(c);
        return text.length;
    }

    public int clear() {
        int had = text.length;
        text.length = 0;
        return had;
    }

    public int town() {
        int items = text.readInto(draft);
        if (items < 0) return items;
        Town told = draft;
        draft = town;
        town = told;
        text.length = 0;
        today.begin(town);
        past.known = 0;
        hearsay.many = 0;
        imageZero.kept = false;
        imageOne.kept = false;
        return items;
    }

    public int train(int t, int what) {
        if (!isIn(t, town.trains)) return BAD;
        switch (what) {
            case 0: return at(today.hours, t);
            case 1: return at(town.crowds, t);
            case 2: return at(today.likes, t);
            case 3: return bit(today.stopped, t);
            default: return BAD;
        }
    }

    public int group(int r, int what) {
        if (!isIn(r, town.groups)) return BAD;
        switch (what) {
            case 0: return at(town.people, r);
            case 1: return at(town.firsts, r);
            case 2: return at(town.seconds, r);
            case 3: return bit(today.rugs, r);
            default: return BAD;
        }
    }

    public int votes(int c, int end) {
        if (!isIn(c, town.candidates) || !isIn(end, 2)) return BAD;
        castFor(end == 1 ? openTrains() : 0);
        return at(ballot.sums, c);
    }

    // ---- what is done

    public int hour() {
        if (today.hour > LAST_HOUR) return STATE;
        past.push(today);
        int stops = today.fog == 1 ? 0 : stopTrains();
        today.hour++;
        return stops;
    }

    public int holds(int t) {
        if (!isIn(t, town.trains)) return BAD;
        if (bit(openTrains(), t) == 0 || at(today.hours, t) >= LAST_HOUR) return STATE;
        past.push(today);
        raise(today.hours, t, 1);
        return at(today.hours, t);
    }

    public int canvasses(int t, int c) {
        if (!isIn(t, town.trains) || !isIn(c, town.candidates)) return BAD;
        if (bit(today.stopped, t) == 1 || at(today.likes, t) == c || today.buns <= 0) return STATE;
        past.push(today);
        set(today.likes, t, c);
        today.buns--;
        return today.buns;
    }

    public int fog(int is) {
        if (!isIn(is, 2)) return BAD;
        if (today.fog == is) return STATE;
        past.push(today);
        today.fog = is;
        return town.trains - Integer.bitCount(today.stopped);
    }

    public int rugs(int r) {
        if (!isIn(r, town.groups)) return BAD;
        if (bit(today.rugs, r) == 1) return STATE;
        past.push(today);
        int first = at(town.firsts, r);
        raise(today.votes, first, at(town.people, r));
        today.rugs |= 1 << r;
        return at(today.votes, first);
    }

    public int undo() {
        if (past.known <= 0) return STATE;
        past.popInto(today);
        return past.known;
    }

    public int now(int what) {
        switch (what) {
            case 0: return today.hour;
            case 1: return today.buns;
            case 2: return today.fog;
            case 3: return leftAfter(0);
            case 4: return leftAfter(openTrains());
            case 5: return winnerAfter(0, town.left);
            case 6: return winnerAfter(openTrains(), town.left);
            default: return BAD;
        }
    }

    // ---- plans

    public int plan(int c, int by) {
        if (!isIn(c, town.candidates) || !isIn(by, town.candidates)) return BAD;
        int open = openTrains();
        int others = open & ~trainsFor(by);
        int best = NONE;
        int fewest = today.buns + 1;
        // Sets come in rising order, so the first of a size is the least of that size.
        for (int set = 0; set < 1 << MOST_TRAINS; set++) {
            if ((set & ~others) != 0 || Integer.bitCount(set) >= fewest) continue;
            castCanvassed(open, set, by);
            if (ballot.winner(town, today.rugs, town.left) == c) {
                best = set;
                fewest = Integer.bitCount(set);
            }
        }
        return best;
    }

    public int power(int t) {
        if (!isIn(t, town.trains)) return BAD;
        int open = openTrains();
        if (bit(open, t) == 0) return STATE;
        int others = open & ~(1 << t);
        int decided = 0;
        for (int set = 0; set < 1 << MOST_TRAINS; set++) {
            if ((set & ~others) != 0) continue;
            if (winnerAfter(set, town.left) != winnerAfter(set | 1 << t, town.left)) decided++;
        }
        return decided;
    }

    public int laws(int c) {
        if (!isIn(c, town.candidates)) return BAD;
        int open = openTrains();
        int lawful = 0;
        for (int left = 1; left <= town.candidates && left <= MOST_CANDIDATES; left++) {
            if (winnerAfter(open, left) == c) lawful |= 1 << left;
        }
        return lawful;
    }

    public int odds(int x, int c, int what) {
        if (!isIn(x, 11) || !isIn(c, town.candidates) || !isIn(what, 2)) return BAD;
        int open = openTrains();
        int upper = 0;
        // No more than 8 trains, each by tenths: every number here is 100,000,000 at most.
        for (int set = 0; set < 1 << MOST_TRAINS; set++) {
            if ((set & ~open) != 0) continue;
            int chance = product(10 - x, Integer.bitCount(set), x, Integer.bitCount(open & ~set));
            if (chance > 0 && winnerAfter(set, town.left) == c) upper += chance;
        }
        int lower = product(10, Integer.bitCount(open), 1, 0);
        int common = commonDivisor(upper, lower);
        return (what == 0 ? upper : lower) / common;
    }

    // ---- likings

    public int hears(int a, int b) {
        if (!isIn(a, town.candidates) || !isIn(b, town.candidates) || a == b) return BAD;
        if (hearsay.many >= MOST_HEARD) return FULL;
        hearsay.append(a, b);
        return hearsay.many;
    }

    public int forget() {
        int had = hearsay.many;
        hearsay.many = 0;
        return had;
    }

    public int likings(int what) {
        if (!isIn(what, 2)) return BAD;
        hearsay.fit(town.candidates);
        return what == 0 ? hearsay.fitting : hearsay.firstFit();
    }

    public int ask() {
        hearsay.fit(town.candidates);
        return hearsay.question(town.candidates);
    }

    // ---- kinds, images

    public int mark(int kind, int c) {
        if (!isIn(c, town.candidates)) return NO;
        switch (kind) {
            case 0: return markOfOne(c);
            case 1: return markOfLiberal(c);
            case 2: return markOfTory(c);
            case 3: return markOfGuard(c);
            case 4: return markOfPorter(c);
            case 5: return markOfMayor(c);
            default: return NO;
        }
    }

    public int keep(int image) {
        Image to = imageOf(image);
        if (to == null) return BAD;
        to.kept = true;
        to.now.copyFrom(today);
        to.past.copyFrom(past);
        return today.hour;
    }

    public int back(int image) {
        Image from = imageOf(image);
        if (from == null) return BAD;
        if (!from.kept) return STATE;
        today.copyFrom(from.now);
        past.copyFrom(from.past);
        return today.hour;
    }

    public int count(int what) {
        switch (what) {
            case 0: return town.candidates;
            case 1: return town.left;
            case 2: return town.trains;
            case 3: return town.groups;
            case 4: return hearsay.many;
            case 5: return past.known;
            case 6: return text.length;
            default: return BAD;
        }
    }

    public long trace() {
        return bodies;
    }

    // ---- trains that may yet stop, and what comes of it

    /** The trains, as bits, that have not stopped and whose hour is not gone by. */
    private int openTrains() {
        int open = 0;
        for (int t = 0; t < town.trains; t++) {
            if (bit(today.stopped, t) == 0 && at(today.hours, t) >= today.hour) open |= 1 << t;
        }
        return open;
    }

    private int trainsFor(int c) {
        int trains = 0;
        for (int t = 0; t < town.trains; t++) {
            if (at(today.likes, t) == c) trains |= 1 << t;
        }
        return trains;
    }

    private int stopTrains() {
        int stops = 0;
        for (int t = 0; t < town.trains; t++) {
            if (bit(today.stopped, t) == 1 || at(today.hours, t) != today.hour) continue;
            raise(today.votes, at(today.likes, t), at(town.crowds, t));
            today.stopped |= 1 << t;
            stops++;
        }
        return stops;
    }

    private void castFor(int stops) {
        castCanvassed(stops, 0, 0);
    }

    /** Votes as they would be if these trains stop, those of them that are canvassed for another candidate. */
    private void castCanvassed(int stops, int canvassed, int by) {
        ballot.open(today.votes);
        for (int t = 0; t < town.trains; t++) {
            if (bit(stops, t) == 0) continue;
            int liked = bit(canvassed, t) == 1 ? by : at(today.likes, t);
            raise(ballot.sums, liked, at(town.crowds, t));
        }
    }

    private int leftAfter(int stops) {
        castFor(stops);
        return ballot.whoIsLeft(town.candidates, town.left);
    }

    private int winnerAfter(int stops, int left) {
        castFor(stops);
        return ballot.winner(town, today.rugs, left);
    }

    // ---- kinds: each body adds its own number to the trace

    private int markOfOne(int c) {
        bodies += 1;
        return at(today.votes, c);
    }

    private int markOfLiberal(int c) {
        bodies += 10;
        return markOfOne(c) + Integer.bitCount(trainsFor(c) & ~today.stopped);
    }

    private int markOfTory(int c) {
        bodies += 100;
        return markOfOne(c) - town.groupsOf(c);
    }

    private int markOfGuard(int c) {
        bodies += 1000;
        return markOfLiberal(c) * 2;
    }

    private int markOfPorter(int c) {
        bodies += 10000;
        return markOfTory(c) + c;
    }

    private int markOfMayor(int c) {
        bodies += 100000;
        return markOfOne(c) + today.hour;
    }

    private Image imageOf(int image) {
        if (image == 0) return imageZero;
        return image == 1 ? imageOne : null;
    }

    // ---- rows and numbers

    private static boolean isIn(int i, int many) {
        return i >= 0 && i < many;
    }

    private static int at(int[] row, int i) {
        return isIn(i, row.length) ? row[i] : 0;
    }

    private static void set(int[] row, int i, int to) {
        if (isIn(i, row.length)) row[i] = to;
    }

    private static void raise(int[] row, int i, int more) {
        if (isIn(i, row.length)) row[i] += more;
    }

    private static int bit(int bits, int i) {
        return isIn(i, 32) ? bits >> i & 1 : 0;
    }

    private static void copy(int[] from, int[] to) {
        System.arraycopy(from, 0, to, 0, Math.min(from.length, to.length));
    }

    private static int product(int a, int timesA, int b, int timesB) {
        int product = 1;
        for (int i = 0; i < timesA; i++) product *= a;
        for (int i = 0; i < timesB; i++) product *= b;
        return product;
    }

    /** At least 1, so that it always divides; the counter stands far above what Euclid needs. */
    private static int commonDivisor(int a, int b) {
        for (int i = 0; i < 1000 && b != 0; i++) {
            int rest = a % b;
            a = b;
            b = rest;
        }
        return Math.max(a, 1);
    }

    /** What a text tells; nothing that is done changes it. */
    private static final class Town {
        int candidates = 3;
        int left = 2;
        int buns = 3;
        int trains = 0;
        int groups = 0;
        final int[] hours = new int[MOST_TRAINS];
        final int[] crowds = new int[MOST_TRAINS];
        final int[] likes = new int[MOST_TRAINS];
        final int[] people = new int[MOST_GROUPS];
        final int[] firsts = new int[MOST_GROUPS];
        final int[] seconds = new int[MOST_GROUPS];

        void reset() {
            candidates = 3;
            left = 2;
            buns = 3;
            trains = 0;
            groups = 0;
        }

        void addTrain(int h, int crowd, int liked) {
            set(hours, trains, h);
            set(crowds, trains, crowd);
            set(likes, trains, liked);
            trains++;
        }

        void addGroup(int many, int first, int second) {
            set(people, groups, many);
            set(firsts, groups, first);
            set(seconds, groups, second);
            groups++;
        }

        int groupsOf(int c) {
            int groupsOf = 0;
            for (int r = 0; r < groups; r++) {
                if (at(firsts, r) == c) groupsOf++;
            }
            return groupsOf;
        }

        /** Whom a group is for, of those who are left. */
        int choiceOf(int r, int left) {
            if (bit(left, at(firsts, r)) == 1) return at(firsts, r);
            if (bit(left, at(seconds, r)) == 1) return at(seconds, r);
            return Integer.numberOfTrailingZeros(left);
        }
    }

    /** The text, and the reader that goes through it token by token. */
    private static final class Text {
        private static final int END = 0, WORD = 1, NUMBER = 2, STOP = 3, OTHER = 4;

        int length = 0;
        private final char[] bytes = new char[MOST_BYTES];
        private int place = 0;
        private int start = 0;
        private int token = END;
        private int value = 0;

        void append(int c) {
            if (!isIn(length, bytes.length)) return;
            bytes[length] = (char) c;
            length++;
        }

        /** How many items it tells, or -10 less the fault's place; the draft holds them if there is no fault. */
        int readInto(Town told) {
            told.reset();
            place = 0;
            for (int items = 0; items <= MOST_BYTES; items++) {
                step();
                if (token == END) return items;
                if (!readItem(told, items)) break;
            }
            return -10 - start;
        }

        private boolean readItem(Town told, int items) {
            if (token != WORD) return false;
            switch (value) {
                case 'c': return items == 0 && readChoice(told);
                case 't': return told.trains < MOST_TRAINS && readTrain(told);
                case 'r': return told.groups < MOST_GROUPS && readGroup(told);
                default: return false;
            }
        }

        private boolean readChoice(Town told) {
            if (!readNumber(2, MOST_CANDIDATES)) return false;
            told.candidates = value;
            if (!readNumber(1, told.candidates)) return false;
            told.left = value;
            if (!readNumber(0, MOST_BUNS)) return false;
            told.buns = value;
            return readStop();
        }

        private boolean readTrain(Town told) {
            if (!readNumber(0, LAST_HOUR)) return false;
            int h = value;
            if (!readNumber(1, MOST_PEOPLE)) return false;
            int crowd = value;
            if (!readNumber(0, told.candidates - 1)) return false;
            told.addTrain(h, crowd, value);
            return readStop();
        }

        private boolean readGroup(Town told) {
            if (!readNumber(1, MOST_PEOPLE)) return false;
            int many = value;
            if (!readNumber(0, told.candidates - 1)) return false;
            int first = value;
            if (!readNumber(0, told.candidates - 1) || value == first) return false;
            told.addGroup(many, first, value);
            return readStop();
        }

        private boolean readNumber(int least, int most) {
            step();
            return token == NUMBER && value >= least && value <= most;
        }

        private boolean readStop() {
            step();
            return token == STOP;
        }

        /** Goes to the next token: its start, what it is, and its number or its only letter. */
        private void step() {
            while (place < length && byteAt(place) == ' ') place++;
            start = place;
            if (place >= length) {
                token = END;
            } else if (isLetter(byteAt(place))) {
                stepWord();
            } else if (isDigit(byteAt(place))) {
                stepNumber();
            } else {
                token = byteAt(place) == ';' ? STOP : OTHER;
                place++;
            }
        }

        private void stepWord() {
            while (place < length && isLetter(byteAt(place))) place++;
            token = WORD;
            value = place - start == 1 ? byteAt(start) : 0;
        }

        private void stepNumber() {
            value = 0;
            while (place < length && isDigit(byteAt(place))) {
                // A longer one is faulty whatever it is: its value must only not run over.
                if (value < 100) value = value * 10 + byteAt(place) - '0';
                place++;
            }
            boolean ledByZero = byteAt(start) == '0' && place - start > 1;
            token = ledByZero || value > 99 ? OTHER : NUMBER;
        }

        private int byteAt(int i) {
            // Looks for itself: isIn() from here would go nine calls deep.
            return i >= 0 && i < length && i < bytes.length ? bytes[i] : 0;
        }

        private static boolean isLetter(int c) {
            return c >= 'a' && c <= 'z';
        }

        private static boolean isDigit(int c) {
            return c >= '0' && c <= '9';
        }
    }

    /** All that is done to a town changes this alone; stopped and rugs are bits of trains and groups. */
    private static final class Now {
        int hour = 0;
        int buns = 3;
        int fog = 0;
        int stopped = 0;
        int rugs = 0;
        final int[] votes = new int[MOST_CANDIDATES];
        final int[] hours = new int[MOST_TRAINS];
        final int[] likes = new int[MOST_TRAINS];

        void begin(Town town) {
            hour = 0;
            buns = town.buns;
            fog = 0;
            stopped = 0;
            rugs = 0;
            for (int c = 0; c < votes.length; c++) votes[c] = 0;
            copy(town.hours, hours);
            copy(town.likes, likes);
        }

        void copyFrom(Now other) {
            hour = other.hour;
            buns = other.buns;
            fog = other.fog;
            stopped = other.stopped;
            rugs = other.rugs;
            copy(other.votes, votes);
            copy(other.hours, hours);
            copy(other.likes, likes);
        }
    }

    /** What was ahead of the latest things done, the oldest first. */
    private static final class Past {
        int known = 0;
        private final Now[] rows = new Now[MOST_KNOWN];

        Past() {
            for (int i = 0; i < rows.length; i++) rows[i] = new Now();
        }

        void push(Now now) {
            if (known >= rows.length) loseOldest();
            Now row = rowAt(known);
            if (row == null) return;
            row.copyFrom(now);
            known++;
        }

        void popInto(Now now) {
            Now row = rowAt(known - 1);
            if (row == null) return;
            now.copyFrom(row);
            known--;
        }

        void copyFrom(Past other) {
            known = other.known;
            for (int i = 0; i < known; i++) {
                Now from = other.rowAt(i);
                Now to = rowAt(i);
                if (from != null && to != null) to.copyFrom(from);
            }
        }

        private void loseOldest() {
            for (int i = 1; i < rows.length; i++) {
                Now oldest = rows[i - 1];
                rows[i - 1] = rows[i];
                rows[i] = oldest;
            }
            known = rows.length - 1;
        }

        private Now rowAt(int i) {
            return isIn(i, rows.length) ? rows[i] : null;
        }
    }

    /** What keep() kept. */
    private static final class Image {
        boolean kept = false;
        final Now now = new Now();
        final Past past = new Past();
    }

    /** Counts votes: rows that every count uses again. */
    private static final class Ballot {
        final int[] sums = new int[MOST_CANDIDATES];
        private final int[] backers = new int[MOST_CANDIDATES];

        void open(int[] votes) {
            copy(votes, sums);
        }

        int whoIsLeft(int candidates, int many) {
            int all = (1 << candidates) - 1;
            int left = 0;
            for (int i = 0; i < many; i++) left |= 1 << mostOf(sums, all & ~left);
            return left;
        }

        /** Who wins by the sums, if so many are left and groups with rugs don't vote. */
        int winner(Town town, int rugs, int many) {
            int left = whoIsLeft(town.candidates, many);
            for (int c = 0; c < backers.length; c++) backers[c] = 0;
            for (int r = 0; r < town.groups; r++) {
                if (bit(rugs, r) == 0) raise(backers, town.choiceOf(r, left), at(town.people, r));
            }
            return mostOf(backers, left);
        }

        /** Of these candidates the one with most, of like ones the lowest. */
        private static int mostOf(int[] row, int these) {
            int best = -1;
            for (int c = 0; c < row.length; c++) {
                if (bit(these, c) == 1 && (best < 0 || row[c] > at(row, best))) best = c;
            }
            return Math.max(best, 0);
        }
    }

    /** What was heard of an unknown group, and which twos of likings it leaves. */
    private static final class Hearsay {
        private static final int TWOS = MOST_CANDIDATES * MOST_CANDIDATES;

        int many = 0;
        int fitting = 0;
        private final int[] chosen = new int[MOST_HEARD];
        private final int[] other = new int[MOST_HEARD];
        private final int[] fits = new int[TWOS];

        void append(int a, int b) {
            set(chosen, many, a);
            set(other, many, b);
            many++;
        }

        /** Gathers the likings, as 10 times first and second, by which all that was heard is so. */
        void fit(int candidates) {
            fitting = 0;
            for (int first = 0; first < candidates; first++) {
                for (int second = 0; second < candidates; second++) {
                    if (first == second || !isSo(first, second)) continue;
                    set(fits, fitting, 10 * first + second);
                    fitting++;
                }
            }
        }

        int firstFit() {
            return fitting > 0 ? at(fits, 0) : NONE;
        }

        /** The two candidates who part the likings best; a part that is all of them parts nothing. */
        int question(int candidates) {
            int best = NONE;
            int least = fitting;
            for (int a = 0; a < candidates; a++) {
                for (int b = a + 1; b < candidates; b++) {
                    int forA = countFor(a, b);
                    int greater = Math.max(forA, fitting - forA);
                    if (greater >= least) continue;
                    least = greater;
                    best = 10 * a + b;
                }
            }
            return best;
        }

        private int countFor(int a, int b) {
            int forA = 0;
            for (int i = 0; i < fitting; i++) {
                if (choice(at(fits, i) / 10, at(fits, i) % 10, a, b) == a) forA++;
            }
            return forA;
        }

        private boolean isSo(int first, int second) {
            for (int i = 0; i < many; i++) {
                if (choice(first, second, at(chosen, i), at(other, i)) != at(chosen, i)) return false;
            }
            return true;
        }

        private static int choice(int first, int second, int a, int b) {
            if (first == a || first == b) return first;
            if (second == a || second == b) return second;
            return Math.min(a, b);
        }
    }
}
