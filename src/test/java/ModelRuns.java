import java.util.ArrayList;
import java.util.List;
import java.util.Random;

/** Runs of calls, the same ones each time, on the class and on the model: each answer must be the same. */
public final class ModelRuns {
    private static final int RUNS = 6000;
    private static final String[] LOOKS = {"train", "group", "votes", "now", "now", "plan", "power", "laws", "odds",
        "likings", "ask", "mark", "count", "trace"};
    private static final String[] DEEDS = {"hour", "hour", "holds", "holds", "canvasses", "canvasses", "fog", "rugs",
        "undo", "hears", "hears", "forget", "keep", "back"};
    private static final Due due = new Due();

    private final Random random;
    private final StrangerVotes x = new StrangerVotes();
    private final Model model = new Model();
    private final List<String> log = new ArrayList<>();
    private int calls = 0;

    private ModelRuns(int seed) {
        random = new Random(seed);
    }

    public static void main(String[] args) {
        for (int seed = 0; seed < RUNS && !due.anyWrong(); seed++) {
            due.part("run " + seed);
            new ModelRuns(seed).go();
        }
        due.end();
    }

    private void go() {
        int towns = 1 + random.nextInt(3);
        for (int i = 0; i < towns; i++) {
            if (i > 0 || random.nextInt(8) > 0) tellTown();
            int steps = random.nextInt(160);
            for (int s = 0; s < steps && calls < 512; s++) step();
        }
    }

    private void step() {
        int kind = random.nextInt(20);
        if (kind == 0) call("type", argument(256), 0, 0);
        else if (kind == 1 && random.nextInt(4) == 0) call(random.nextBoolean() ? "clear" : "town", 0, 0, 0);
        else if (kind == 2 && random.nextInt(3) == 0) often();
        else if (kind < 11) call(DEEDS[random.nextInt(DEEDS.length)], argument(4), argument(4), 0);
        else look();
    }

    /** One deed again and again: hours up to the last, undone up to none. */
    private void often() {
        String deed = random.nextBoolean() ? "undo" : random.nextBoolean() ? "hour" : "holds";
        int times = 2 + random.nextInt(14);
        int which = argument(4);
        for (int i = 0; i < times; i++) {
            call(deed, which, 0, 0);
            look();
        }
    }

    private void look() {
        String which = LOOKS[random.nextInt(LOOKS.length)];
        if (which.equals("odds")) call(which, argument(11), argument(4), argument(2));
        else call(which, argument(8), argument(4), 0);
    }

    /** Mostly one of so many, at times any number about them or far from them. */
    private int argument(int many) {
        int kind = random.nextInt(24);
        if (kind == 0) return random.nextInt();
        if (kind < 3) return random.nextInt(many + 6) - 3;
        return random.nextInt(many);
    }

    private void tellTown() {
        StringBuilder text = new StringBuilder(goodText());
        if (random.nextInt(3) == 0) spoil(text);
        for (int i = 0; i < text.length() && calls < 512; i++) call("type", text.charAt(i), 0, 0);
        call("town", 0, 0, 0);
        for (int what = 0; what < 7; what++) call("count", what, 0, 0);
        if (random.nextBoolean()) call("clear", 0, 0, 0);
    }

    private String goodText() {
        int candidates = 3;
        StringBuilder text = new StringBuilder();
        if (random.nextInt(5) > 0) {
            candidates = 2 + random.nextInt(5);
            item(text, "c", candidates, 1 + random.nextInt(candidates), random.nextInt(random.nextBoolean() ? 5 : 21));
        }
        int items = random.nextInt(14);
        int people = random.nextBoolean() ? 4 : 30;
        int hours = random.nextBoolean() ? 4 : 24;
        for (int i = 0; i < items; i++) {
            int first = random.nextInt(candidates);
            int second = (first + 1 + random.nextInt(candidates - 1)) % candidates;
            if (random.nextInt(5) < 3) item(text, "t", random.nextInt(hours), 1 + random.nextInt(people), first);
            else item(text, "r", 1 + random.nextInt(people), first, second);
        }
        return text.toString();
    }

    private void item(StringBuilder text, String letter, int a, int b, int c) {
        text.append(blanks()).append(letter).append(blanks()).append(a).append(' ').append(blanks()).append(b)
            .append(' ').append(blanks()).append(c).append(blanks()).append(';');
    }

    private String blanks() {
        return random.nextInt(12) == 0 ? "  ".substring(random.nextInt(2)) : "";
    }

    private void spoil(StringBuilder text) {
        String odd = "ctr;0123456789 ctr;0123456789 az#C\t\n{`/:" + (char) 0 + (char) 127 + (char) 200 + (char) 255;
        int times = 1 + random.nextInt(2);
        for (int i = 0; i < times; i++) {
            int place = random.nextInt(text.length() + 1);
            int how = random.nextInt(4);
            if (how == 0) text.setLength(place);
            else if (how == 1 && place < text.length()) text.deleteCharAt(place);
            else if (how == 2 && place < text.length()) text.setCharAt(place, odd.charAt(random.nextInt(odd.length())));
            else text.insert(place, odd.charAt(random.nextInt(odd.length())));
        }
    }

    private void call(String name, int a, int b, int c) {
        if (calls >= 512) return;
        calls++;
        long want = model.answer(name, a, b, c);
        long got = Calls.answer(x, name, a, b, c);
        String told = name + "(" + a + ", " + b + ", " + c + ")";
        log.add(told + " -> " + got);
        if (got != want && !due.anyWrong()) {
            for (String row : log) System.out.println(row);
        }
        due.is(told, got, want);
    }
}
