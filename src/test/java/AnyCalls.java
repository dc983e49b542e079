import java.util.Random;

/** Any arguments in any state, far behind the 512th call too: nothing is thrown, and refused calls change nothing. */
public final class AnyCalls {
    private static final int[] EDGES = {Integer.MIN_VALUE, Integer.MIN_VALUE + 1, -1000000, -256, -33, -32, -31, -10, -9,
        -2, -1, 0, 1, 2, 3, 5, 6, 7, 8, 9, 10, 11, 23, 24, 31, 32, 33, 63, 64, 119, 120, 121, 255, 256, 257, 65536,
        Integer.MAX_VALUE - 1, Integer.MAX_VALUE};
    private static final String TOWN = "c6 3 20;t0 9 1;t1 30 5;t1 2 0;t3 4 4;t5 6 3;t23 1 2;t0 1 2;t2 8 1;r9 1 0;r30 5 4;r1 0 2;";
    private static final Due due = new Due();

    public static void main(String[] args) {
        for (int seed = 0; seed < 40; seed++) {
            due.part("run " + seed);
            run(new Random(seed));
        }
        due.end();
    }

    private static void run(Random random) {
        StrangerVotes x = new StrangerVotes();
        for (int i = 0; i < 5000; i++) {
            if (i % 700 == 0) tellTown(x);
            String call = Calls.NAMES[random.nextInt(Calls.NAMES.length)];
            int a = argument(random), b = argument(random), c = argument(random);
            try {
                if (random.nextInt(10) == 0) refused(x, call, a, b, c);
                else Calls.answer(x, call, a, b, c);
            } catch (RuntimeException | Error thrown) {
                due.holds(call + "(" + a + ", " + b + ", " + c + ") threw " + thrown, false);
            }
        }
    }

    private static void refused(StrangerVotes x, String call, int a, int b, int c) {
        long before = look(x);
        long answer = Calls.answer(x, call, a, b, c);
        boolean isRefused = answer == StrangerVotes.NO || answer <= -10 && call.equals("town")
            || answer < 0 && answer > -4 && !call.equals("mark");
        if (isRefused) due.is("all, as " + call + " was refused", look(x), before);
    }

    private static int argument(Random random) {
        return random.nextInt(3) == 0 ? EDGES[random.nextInt(EDGES.length)] : random.nextInt(4);
    }

    private static void tellTown(StrangerVotes x) {
        x.clear();
        for (int i = 0; i < TOWN.length(); i++) x.type(TOWN.charAt(i));
        due.is("town()", x.town(), 12);
    }

    /** All that can be seen without a change, in one number. */
    private static long look(StrangerVotes x) {
        long all = x.trace();
        for (int i = 0; i < 8; i++) {
            all = all * 31 + x.count(i);
            all = all * 31 + x.now(i);
            for (int what = 0; what < 5; what++) {
                all = all * 31 + x.train(i, what);
                all = all * 31 + x.group(i, what);
            }
            all = all * 31 + x.votes(i, 0);
            all = all * 31 + x.power(i);
            all = all * 31 + x.laws(i);
        }
        return (all * 31 + x.likings(0)) * 31 + x.likings(1);
    }
}
