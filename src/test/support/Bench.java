import java.util.Arrays;

/** What the tests of sentences ask with. */
abstract class Bench {
    static final int BAD = -1, STATE = -2, FULL = -3, NONE = -9, NO = -1000000;
    static final Due due = new Due();

    // ---- texts

    static void type(StrangerVotes x, String text) {
        for (int i = 0; i < text.length(); i++) x.type(text.charAt(i));
    }

    static int read(StrangerVotes x, String text) {
        type(x, text);
        return x.town();
    }

    static StrangerVotes told(String text) {
        StrangerVotes x = new StrangerVotes();
        due.holds("is read: " + text, read(x, text) >= 0);
        return x;
    }

    static void isRead(String text, int items) {
        due.is("town() of \"" + text + "\"", read(new StrangerVotes(), text), items);
    }

    static void isFaulty(String text, int place) {
        due.is("town() of \"" + text + "\"", read(new StrangerVotes(), text), -10 - place);
    }

    // ---- rows of answers

    static int[] counts(StrangerVotes x) {
        int[] row = new int[7];
        for (int what = 0; what < row.length; what++) row[what] = x.count(what);
        return row;
    }

    static int[] now(StrangerVotes x) {
        int[] row = new int[7];
        for (int what = 0; what < row.length; what++) row[what] = x.now(what);
        return row;
    }

    static int[] train(StrangerVotes x, int t) {
        return new int[] {x.train(t, 0), x.train(t, 1), x.train(t, 2), x.train(t, 3)};
    }

    static int[] group(StrangerVotes x, int r) {
        return new int[] {x.group(r, 0), x.group(r, 1), x.group(r, 2), x.group(r, 3)};
    }

    static int[] votes(StrangerVotes x) {
        return votes(x, 0);
    }

    static int[] votesInTheEnd(StrangerVotes x) {
        return votes(x, 1);
    }

    private static int[] votes(StrangerVotes x, int end) {
        int[] row = new int[x.count(0)];
        for (int c = 0; c < row.length; c++) row[c] = x.votes(c, end);
        return row;
    }

    static int[] odds(StrangerVotes x, int tenths, int c) {
        return new int[] {x.odds(tenths, c, 0), x.odds(tenths, c, 1)};
    }

    static void rows(String what, int[] got, int... want) {
        due.holds(what + " answered " + Arrays.toString(got) + ", due is " + Arrays.toString(want), Arrays.equals(got, want));
    }

    // ---- all that can be seen without a change

    static String look(StrangerVotes x) {
        StringBuilder all = new StringBuilder();
        all.append("counts ").append(Arrays.toString(counts(x))).append(" now ").append(Arrays.toString(now(x)));
        for (int t = 0; t < x.count(2); t++) all.append(" train ").append(Arrays.toString(train(x, t)));
        for (int r = 0; r < x.count(3); r++) all.append(" group ").append(Arrays.toString(group(x, r)));
        all.append(" votes ").append(Arrays.toString(votes(x)));
        all.append(" likings ").append(x.likings(0)).append(' ').append(x.likings(1)).append(' ').append(x.ask());
        return all.append(" trace ").append(x.trace()).toString();
    }

    static void same(String what, String got, String want) {
        due.holds(what + ":\n  " + got + "\n  due is\n  " + want, got.equals(want));
    }

    static void hours(StrangerVotes x, int many) {
        for (int i = 0; i < many; i++) x.hour();
    }
}
