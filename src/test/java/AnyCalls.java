import java.util.Random;

/**
 * Any arguments in any state: nothing is thrown, far behind the 512th call too; up to it a refused call changes nothing
 * that can be seen.
 */
public final class AnyCalls {
    private static final int PROMISED = 512;
    private static final int LOOK = 120;
    private static final int[] EDGES = {Integer.MIN_VALUE, Integer.MIN_VALUE + 1, -1000000, -256, -33, -32, -31, -10, -9,
        -2, -1, 0, 1, 2, 3, 5, 6, 7, 8, 9, 10, 11, 23, 24, 31, 32, 33, 63, 64, 119, 120, 121, 255, 256, 257, 65536,
        Integer.MAX_VALUE - 1, Integer.MAX_VALUE};
    private static final String TOWN = "c6 3 20;t0 9 1;t1 30 5;t1 2 0;t3 4 4;t5 6 3;t23 1 2;t0 1 2;t2 8 1;r9 1 0;r30 5 4;r1 0 2;";
    private static final Due due = Bench.due;

    private final Random random;
    private final StrangerVotes x = new StrangerVotes();
    private int calls = 0;

    private AnyCalls(int seed) {
        random = new Random(seed);
    }

    public static void main(String[] args) {
        for (int seed = 0; seed < 300; seed++) {
            due.part("run " + seed);
            new AnyCalls(seed).run(seed < 40 ? 4000 : 450);
        }
        due.end();
    }

    private void run(int many) {
        tellTown();
        for (int i = 0; i < many; i++) {
            if (i % 700 == 699) tellTown();
            String call = Calls.NAMES[random.nextInt(Calls.NAMES.length)];
            int a = argument(), b = argument(), c = argument();
            try {
                if (random.nextInt(60) == 0 && calls + 2 * LOOK < PROMISED) refused(call, a, b, c);
                else answer(call, a, b, c);
            } catch (RuntimeException | Error thrown) {
                due.holds(call + "(" + a + ", " + b + ", " + c + ") threw " + thrown, false);
            }
        }
    }

    private long answer(String call, int a, int b, int c) {
        calls++;
        return Calls.answer(x, call, a, b, c);
    }

    private void refused(String call, int a, int b, int c) {
        String before = look();
        long answer = answer(call, a, b, c);
        boolean isRefused = call.equals("mark") ? answer == StrangerVotes.NO
            : call.equals("town") ? answer <= -10 : answer < 0 && answer > -4;
        if (isRefused) Bench.same(call + "(" + a + ", " + b + ", " + c + ") is refused", look(), before);
    }

    private String look() {
        calls += LOOK;
        return Bench.look(x);
    }

    private int argument() {
        return random.nextInt(3) == 0 ? EDGES[random.nextInt(EDGES.length)] : random.nextInt(4);
    }

    private void tellTown() {
        answer("clear", 0, 0, 0);
        for (int i = 0; i < TOWN.length(); i++) answer("type", TOWN.charAt(i), 0, 0);
        long items = answer("town", 0, 0, 0);
        if (calls <= PROMISED) due.is("town()", items, 12);
    }
}
