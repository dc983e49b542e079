/** The promises of ../shared/DOC.md one by one: ordinary inputs, the edges that it names, wrong inputs. */
public final class PromiseTests {
    private static final int BAD = -1, STATE = -2, FULL = -3, NONE = -9, NO = -1000000;
    private static final int[] WRONG = {-1, Integer.MIN_VALUE, Integer.MAX_VALUE, 1000, -9};
    private static final Due due = new Due();

    public static void main(String[] args) {
        constants();
        newObject();
        type();
        clear();
        town();
        townFaults();
        townFaultsOfNumbers();
        townReadAnew();
        townMended();
        train();
        group();
        votes();
        hour();
        holds();
        canvasses();
        fog();
        rugs();
        undo();
        now();
        nowWhoIsLeft();
        winner();
        plan();
        power();
        laws();
        odds();
        hears();
        forget();
        likings();
        ask();
        mark();
        markTrace();
        images();
        imagesKeepAllOfNow();
        count();
        due.end();
    }

    private static void constants() {
        due.part("constants");
        due.is("BAD", StrangerVotes.BAD, BAD);
        due.is("STATE", StrangerVotes.STATE, STATE);
        due.is("FULL", StrangerVotes.FULL, FULL);
        due.is("NONE", StrangerVotes.NONE, NONE);
        due.is("NO", StrangerVotes.NO, NO);
    }

    private static void newObject() {
        due.part("promise 1");
        StrangerVotes x = new StrangerVotes();
        int[] counts = {3, 2, 0, 0, 0, 0, 0};
        for (int what = 0; what < counts.length; what++) due.is("count(" + what + ")", x.count(what), counts[what]);
        int[] nows = {0, 3, 0, 3, 3, 0, 0};
        for (int what = 0; what < nows.length; what++) due.is("now(" + what + ")", x.now(what), nows[what]);
        for (int c = 0; c < 3; c++) due.is("votes", x.votes(c, 0), 0);
        due.is("votes(3, 0)", x.votes(3, 0), BAD);
        due.is("train(0, 0)", x.train(0, 0), BAD);
        due.is("group(0, 0)", x.group(0, 0), BAD);
        due.is("undo()", x.undo(), STATE);
        due.is("back(0)", x.back(0), STATE);
        due.is("trace()", x.trace(), 0);
        due.is("likings(0)", x.likings(0), 6);
    }

    private static void type() {
        due.part("promise 2");
        StrangerVotes x = new StrangerVotes();
        for (int wrong : new int[] {-1, 256, Integer.MIN_VALUE, Integer.MAX_VALUE}) due.is("type", x.type(wrong), BAD);
        due.is("type(0)", x.type(0), 1);
        due.is("type(255)", x.type(255), 2);
        for (int i = 3; i <= 120; i++) due.is("type(32)", x.type(32), i);
        due.is("type of a 121st", x.type(32), FULL);
        due.is("type: BAD is ahead of FULL", x.type(256), BAD);
        due.is("count(6)", x.count(6), 120);
        due.is("clear()", x.clear(), 120);
        due.is("type(32)", x.type(32), 1);
    }

    private static void clear() {
        due.part("promise 3");
        StrangerVotes x = new StrangerVotes();
        due.is("clear()", x.clear(), 0);
        write(x, "t1 2 0");
        due.is("clear()", x.clear(), 6);
        due.is("clear()", x.clear(), 0);
        due.is("town() of an empty text", x.town(), 0);
        due.is("count(2)", x.count(2), 0);
    }

    private static void town() {
        due.part("promise 4");
        due.is("no items", read(new StrangerVotes(), ""), 0);
        due.is("blanks alone", read(new StrangerVotes(), "    "), 0);
        StrangerVotes x = new StrangerVotes();
        due.is("all kinds", read(x, "c4 3 20;t23 30 3;r30 0 3;t0 1 0;r1 3 2;"), 5);
        check(x, "count", new int[] {4, 3, 2, 2, 0, 0, 0});
        check(x, "train 0", new int[] {23, 30, 3, 0});
        check(x, "train 1", new int[] {0, 1, 0, 0});
        check(x, "group 0", new int[] {30, 0, 3, 0});
        check(x, "group 1", new int[] {1, 3, 2, 0});
        due.is("now(1)", x.now(1), 20);
        StrangerVotes blanks = new StrangerVotes();
        due.is("blanks all about", read(blanks, "  c  2   1 0 ;  t   5  7 1;r 9 1  0 ;  "), 3);
        check(blanks, "count", new int[] {2, 1, 1, 1, 0, 0, 0});
        check(blanks, "train 0", new int[] {5, 7, 1, 0});
        check(blanks, "group 0", new int[] {9, 1, 0, 0});
        StrangerVotes most = new StrangerVotes();
        due.is("8 trains", read(most, "t0 1 0;t0 1 0;t0 1 0;t0 1 0;t0 1 0;t0 1 0;t0 1 0;t0 1 0;"), 8);
        due.is("6 groups", read(most, "c6 6 0;r1 0 5;r1 5 0;r1 0 1;r1 0 1;r1 0 1;r1 0 1;"), 7);
        check(most, "count", new int[] {6, 6, 0, 6, 0, 0, 0});
        due.is("120 bytes", read(most, "t10 10 0;t10 10 0;t10 10 0;t10 10 0;t10 10 0;t10 10 0;t10 10 0;t10 10 0;"
            + "r10 0 1;r10 0 1;r10 0 1;r10 0 1;r10 0 1;r10 0 1;"), 14);
    }

    /** Each row is a text and the fault's place. */
    private static void townFaults() {
        due.part("promise 4, faults");
        fault("c", 1);
        fault("c  ", 3);
        fault("c2 1 0", 6);
        fault("t1 2 0 ", 7);
        fault("t1", 2);
        fault("x1 2 0;", 0);
        fault("  tt1 2 0;", 2);
        fault("cc2 1 0;", 0);
        fault("ta1 2 0;", 0);
        fault("tz1 2 0;", 0);
        fault("t1 2 0r1 0 1;", 6);
        fault("t1 2 0;c2 1 0;", 7);
        fault("c2 1 0; c2 1 0;", 8);
        fault("r1 0 1;c2 1 0;", 7);
        fault(";", 0);
        fault("t1 2 0;;", 7);
        fault("1", 0);
        fault("t1 2 0 0;", 7);
        fault("t1 2;", 4);
        fault("t1 2 t", 5);
        fault("t 1 2 0 t", 8);
        fault("t;", 1);
        fault("C2 1 0;", 0);
        fault("t1 2 0;#", 7);
        fault("t1\t2 0;", 2);
        fault("t1,2 0;", 2);
        fault("t-1 2 0;", 1);
        fault("t1 2 0;" + (char) 0, 7);
        fault("t1 2 0;" + (char) 255, 7);
        fault("{1 2 0;", 0);
        fault("`1 2 0;", 0);
        fault("t/1 2 0;", 1);
        fault("t:1 2 0;", 1);
        fault("t0 1 0;t0 1 0;t0 1 0;t0 1 0;t0 1 0;t0 1 0;t0 1 0;t0 1 0; t0 1 0;", 57);
        fault("r1 0 1;r1 0 1;r1 0 1;r1 0 1;r1 0 1;r1 0 1; r1 0 1;", 43);
    }

    private static void townFaultsOfNumbers() {
        due.part("promise 4, faults of numbers");
        fault("c1 1 0;", 1);
        fault("c7 1 0;", 1);
        fault("c0 1 0;", 1);
        fault("c2 0 0;", 3);
        fault("c2 3 0;", 3);
        fault("c2 1 21;", 5);
        fault("t24 1 0;", 1);
        fault("t0 0 0;", 3);
        fault("t0 31 0;", 3);
        fault("t0 1 3;", 5);
        fault("c2 1 0;t0 1 2;", 12);
        fault("r0 0 1;", 1);
        fault("r31 0 1;", 1);
        fault("r1 3 0;", 3);
        fault("r1 0 3;", 5);
        fault("r1 2 2;", 5);
        fault("c6 1 0;r1 5 5;", 12);
        fault("t01 1 0;", 1);
        fault("t00 1 0;", 1);
        fault("t1 05 0;", 3);
        fault("t1 5 00;", 5);
        fault("t100 1 0;", 1);
        fault("t1 100 0;", 3);
        fault("t1 4294967297 0;", 3);
        fault("t1 18446744073709551617 0;", 3);
        fault("t1 100000000000000000000000000000000000000000000000005 0;", 3);
        fault("t1 1 00000000000000000000000000000000000000000;", 5);
        fault("t1 1 0;99", 7);
        fault("t1 99", 3);
    }

    private static void townReadAnew() {
        due.part("promise 4, read anew");
        StrangerVotes x = made("c5 4 9;t0 5 1;t3 4 2;r6 1 2;");
        x.hour();
        x.fog(1);
        x.rugs(0);
        x.hears(0, 1);
        x.keep(0);
        x.keep(1);
        x.mark(3, 1);
        write(x, "t1 1 1;t");
        due.is("a fault", x.town(), -18);
        check(x, "count", new int[] {5, 4, 2, 1, 1, 3, 8});
        due.is("now(0) behind a fault", x.now(0), 1);
        due.is("back(0) behind a fault", x.back(0), 1);
        x.clear();
        due.is("town()", read(x, "r2 1 0;t4 7 2;"), 2);
        check(x, "count", new int[] {3, 2, 1, 1, 0, 0, 0});
        due.is("now(0)", x.now(0), 0);
        due.is("now(1)", x.now(1), 3);
        due.is("now(2)", x.now(2), 0);
        for (int c = 0; c < 3; c++) due.is("votes", x.votes(c, 0), 0);
        check(x, "train 0", new int[] {4, 7, 2, 0});
        check(x, "group 0", new int[] {2, 1, 0, 0});
        due.is("undo()", x.undo(), STATE);
        due.is("back(0)", x.back(0), STATE);
        due.is("back(1)", x.back(1), STATE);
        due.is("trace() stays", x.trace(), 1011);
        due.is("a text that tells nothing", read(x, ""), 0);
        check(x, "count", new int[] {3, 2, 0, 0, 0, 0, 0});
        due.is("now(1)", x.now(1), 3);
        due.is("town()", read(x, "c6 5 20;t1 1 5;"), 2);
        due.is("a text that tells nothing", read(x, " "), 0);
        check(x, "count", new int[] {3, 2, 0, 0, 0, 0, 0});
        due.is("now(1)", x.now(1), 3);
    }

    /** A text that is mended: what stays of it is typed on. */
    private static void townMended() {
        due.part("promise 4, mended");
        StrangerVotes x = new StrangerVotes();
        due.is("too early", read(x, "t1 5"), -14);
        due.is("too early", read(x, " 2"), -16);
        due.is("at last", read(x, ";"), 1);
        check(x, "train 0", new int[] {1, 5, 2, 0});
        due.is("count(6)", x.count(6), 0);
    }

    private static void train() {
        due.part("promise 5");
        StrangerVotes x = made("t2 5 1;t0 9 2;");
        check(x, "train 0", new int[] {2, 5, 1, 0});
        x.holds(0);
        x.canvasses(0, 0);
        x.hour();
        check(x, "train 0", new int[] {3, 5, 0, 0});
        check(x, "train 1", new int[] {0, 9, 2, 1});
        for (int wrong : WRONG) {
            due.is("train", x.train(wrong, 0), BAD);
            due.is("train", x.train(0, wrong), BAD);
        }
        due.is("train(2, 0)", x.train(2, 0), BAD);
        due.is("train(0, 4)", x.train(0, 4), BAD);
    }

    private static void group() {
        due.part("promise 6");
        StrangerVotes x = made("r4 2 0;r7 0 1;");
        x.rugs(1);
        check(x, "group 0", new int[] {4, 2, 0, 0});
        check(x, "group 1", new int[] {7, 0, 1, 1});
        for (int wrong : WRONG) {
            due.is("group", x.group(wrong, 0), BAD);
            due.is("group", x.group(0, wrong), BAD);
        }
        due.is("group(2, 0)", x.group(2, 0), BAD);
        due.is("group(0, 4)", x.group(0, 4), BAD);
    }

    private static void votes() {
        due.part("promise 7");
        StrangerVotes x = made("t0 5 1;t0 6 2;t1 7 1;t9 8 0;r3 2 1;");
        check(x, "votes now", new int[] {0, 0, 0});
        check(x, "votes in the end", new int[] {8, 12, 6});
        x.hour();
        x.rugs(0);
        check(x, "votes now", new int[] {0, 5, 9});
        check(x, "votes in the end", new int[] {8, 12, 9});
        x.fog(1);
        check(x, "votes in the end", new int[] {8, 12, 9});
        x.hour();
        check(x, "votes in the end", new int[] {8, 5, 9});
        for (int wrong : WRONG) {
            due.is("votes", x.votes(wrong, 0), BAD);
            due.is("votes", x.votes(0, wrong), BAD);
        }
        due.is("votes(3, 0)", x.votes(3, 0), BAD);
        due.is("votes(0, 2)", x.votes(0, 2), BAD);
    }

    private static void hour() {
        due.part("promise 8");
        StrangerVotes x = made("t0 5 1;t1 6 2;t0 2 1;t23 1 0;");
        due.is("hour()", x.hour(), 2);
        due.is("now(0)", x.now(0), 1);
        check(x, "votes now", new int[] {0, 7, 0});
        due.is("train(0, 3)", x.train(0, 3), 1);
        due.is("train(1, 3)", x.train(1, 3), 0);
        x.fog(1);
        due.is("hour() in fog", x.hour(), 0);
        x.fog(0);
        for (int h = 2; h < 23; h++) due.is("hour()", x.hour(), 0);
        due.is("hour() of 23", x.hour(), 1);
        due.is("now(0)", x.now(0), 24);
        due.is("hour() at 24", x.hour(), STATE);
        due.is("now(0)", x.now(0), 24);
        due.is("count(5)", x.count(5), 10);
        check(x, "votes now", new int[] {1, 7, 0});
        due.is("train(1, 3): left in fog", x.train(1, 3), 0);
    }

    private static void holds() {
        due.part("promise 9");
        StrangerVotes x = made("t0 5 1;t22 6 2;t23 2 1;t0 1 0;");
        due.is("holds(0)", x.holds(0), 1);
        due.is("holds(1)", x.holds(1), 23);
        due.is("holds(1) of 23", x.holds(1), STATE);
        due.is("holds(2) of 23", x.holds(2), STATE);
        due.is("hour()", x.hour(), 1);
        due.is("holds(3) that stopped", x.holds(3), STATE);
        due.is("holds(0) of the hour", x.holds(0), 2);
        x.fog(1);
        x.hour();
        x.hour();
        due.is("holds(0) gone by", x.holds(0), STATE);
        due.is("count(5)", x.count(5), 7);
        for (int wrong : WRONG) due.is("holds", x.holds(wrong), BAD);
        due.is("holds(4)", x.holds(4), BAD);
    }

    private static void canvasses() {
        due.part("promise 10");
        StrangerVotes x = made("c3 2 2;t0 5 1;t0 6 2;t1 3 0;");
        due.is("canvasses(0, 2)", x.canvasses(0, 2), 1);
        due.is("train(0, 2)", x.train(0, 2), 2);
        due.is("canvasses(0, 2) again", x.canvasses(0, 2), STATE);
        x.fog(1);
        x.hour();
        due.is("canvasses(1, 0): gone by, but not stopped", x.canvasses(1, 0), 0);
        due.is("canvasses(1, 1): no buns", x.canvasses(1, 1), STATE);
        StrangerVotes stopped = made("t0 5 1;");
        stopped.hour();
        due.is("canvasses(0, 2): stopped", stopped.canvasses(0, 2), STATE);
        due.is("now(1)", stopped.now(1), 3);
        due.is("count(5)", stopped.count(5), 1);
        for (int wrong : WRONG) {
            due.is("canvasses", x.canvasses(wrong, 0), BAD);
            due.is("canvasses", x.canvasses(0, wrong), BAD);
        }
        due.is("canvasses(3, 0)", x.canvasses(3, 0), BAD);
        due.is("canvasses(0, 3)", x.canvasses(0, 3), BAD);
    }

    private static void fog() {
        due.part("promise 11");
        StrangerVotes x = made("t0 5 1;t1 6 2;t2 3 0;");
        due.is("fog(0)", x.fog(0), STATE);
        due.is("fog(1)", x.fog(1), 3);
        due.is("fog(1)", x.fog(1), STATE);
        due.is("now(2)", x.now(2), 1);
        x.hour();
        due.is("fog(0): gone by, but not stopped", x.fog(0), 3);
        x.hour();
        due.is("fog(1)", x.fog(1), 2);
        for (int wrong : WRONG) due.is("fog", x.fog(wrong), BAD);
        due.is("fog(2)", x.fog(2), BAD);
        due.is("count(5)", x.count(5), 5);
    }

    private static void rugs() {
        due.part("promise 12");
        StrangerVotes x = made("c3 1 0;t0 5 1;r6 1 2;r7 1 0;r30 2 0;");
        x.hour();
        due.is("rugs(0)", x.rugs(0), 11);
        due.is("rugs(0) again", x.rugs(0), STATE);
        due.is("rugs(1)", x.rugs(1), 18);
        due.is("rugs(2)", x.rugs(2), 30);
        check(x, "votes now", new int[] {0, 18, 30});
        due.is("count(5)", x.count(5), 4);
        for (int wrong : WRONG) due.is("rugs", x.rugs(wrong), BAD);
        due.is("rugs(3)", x.rugs(3), BAD);
    }

    private static void undo() {
        due.part("promise 13");
        StrangerVotes x = made("t0 5 1;t1 6 2;r4 0 1;");
        x.hour();
        x.holds(1);
        x.canvasses(1, 0);
        x.fog(1);
        x.rugs(0);
        x.hour();
        due.is("undo() of the hour", x.undo(), 5);
        due.is("now(0)", x.now(0), 1);
        due.is("undo() of the rug", x.undo(), 4);
        due.is("group(0, 3)", x.group(0, 3), 0);
        due.is("votes(0, 0)", x.votes(0, 0), 0);
        due.is("undo() of fog", x.undo(), 3);
        due.is("now(2)", x.now(2), 0);
        due.is("undo() of canvassed", x.undo(), 2);
        due.is("now(1)", x.now(1), 3);
        check(x, "train 1", new int[] {2, 6, 2, 0});
        due.is("undo() of held", x.undo(), 1);
        check(x, "train 1", new int[] {1, 6, 2, 0});
        due.is("undo() of the hour", x.undo(), 0);
        check(x, "train 0", new int[] {0, 5, 1, 0});
        check(x, "votes now", new int[] {0, 0, 0});
        due.is("undo()", x.undo(), STATE);
        for (int h = 0; h < 12; h++) x.hour();
        due.is("count(5)", x.count(5), 10);
        for (int left = 9; left >= 0; left--) due.is("undo()", x.undo(), left);
        due.is("undo() of an older one", x.undo(), STATE);
        due.is("now(0)", x.now(0), 2);
        check(x, "votes now", new int[] {0, 5, 6});
        x.hour();
        due.is("undo()", x.undo(), 0);
        due.is("now(0)", x.now(0), 2);
    }

    private static void now() {
        due.part("promise 14");
        StrangerVotes x = made("c4 2 5;t0 5 3;t1 6 2;t1 7 1;r4 0 3;r5 1 2;");
        check(x, "now", new int[] {0, 5, 0, 3, 6, 1, 1});
        x.canvasses(1, 3);
        x.hour();
        x.fog(1);
        check(x, "now", new int[] {1, 4, 1, 9, 10, 0, 1});
        for (int wrong : WRONG) due.is("now", x.now(wrong), BAD);
        due.is("now(7)", x.now(7), BAD);
    }

    private static void nowWhoIsLeft() {
        due.part("promise 14, who is left");
        due.is("of like ones the lower", made("c4 2 0;t5 3 2;t5 3 1;t5 3 3;").now(4), 6);
        due.is("one is left", made("c4 1 0;t5 3 2;t5 4 3;").now(4), 8);
        due.is("all are left", made("c6 6 0;t5 3 2;").now(4), 63);
        due.is("of like ones the lower, without votes", made("c6 4 0;t5 3 5;").now(4), 39);
        due.is("now, ahead of trains", made("c6 4 0;t5 3 5;").now(3), 15);
    }

    private static void winner() {
        due.part("promise 14, the winner");
        due.is("the first, if he is left", made("c4 2 0;r5 1 0;r4 0 1;").now(5), 1);
        due.is("else the second", made("c4 2 0;r5 3 1;r4 0 1;").now(5), 1);
        due.is("else the lowest that is left", made("c4 2 0;t0 9 2;t0 9 1;r5 3 0;r4 2 1;").now(6), 1);
        due.is("many of each", made("c4 2 0;r2 1 0;r2 1 0;r3 0 1;").now(5), 1);
        due.is("of like ones the lowest", made("c4 4 0;r3 2 1;r3 1 0;").now(5), 1);
        due.is("no residents: the lowest that is left", made("c4 2 0;t0 1 3;t0 1 2;").now(6), 2);
        StrangerVotes x = made("c3 3 0;r9 2 1;r4 1 0;");
        due.is("now(5)", x.now(5), 2);
        x.rugs(0);
        due.is("a rug votes no more as residents", x.now(5), 1);
        x.rugs(1);
        due.is("rugs alone", x.now(5), 0);
    }

    private static void plan() {
        due.part("promise 15");
        StrangerVotes few = made("c3 2 1;t0 5 1;t0 5 1;t0 9 0;r9 2 1;r1 0 2;");
        due.is("now(6)", few.now(6), 1);
        due.is("plan of the winner: nothing is needed", few.plan(1, 0), 0);
        due.is("plan(2, 2): the one train whose loss leaves him", few.plan(2, 2), 4);
        due.is("plan(2, 0)", few.plan(2, 0), NONE);
        due.is("nothing is changed", few.now(1), 1);
        due.is("plan(0, 2)", few.plan(0, 2), NONE);
        StrangerVotes two = made("c3 2 2;t0 5 1;t0 7 1;t1 2 1;t2 3 0;r9 2 1;");
        due.is("plan(2, 2): of several the least", two.plan(2, 2), 1);
        StrangerVotes three = made("c2 1 3;t0 4 1;t0 4 1;t0 4 1;t0 4 1;t0 4 1;t0 4 1;r1 0 1;");
        due.is("plan(0, 0): half of them", three.plan(0, 0), 7);
        three.canvasses(0, 0);
        due.is("plan(0, 0): one likes him already", three.plan(0, 0), 6);
        three.undo();
        StrangerVotes poor = made("c2 1 2;t0 4 1;t0 4 1;t0 4 1;t0 4 1;t0 4 1;t0 4 1;r1 0 1;");
        due.is("plan(0, 0): buns are too few", poor.plan(0, 0), NONE);
        StrangerVotes gone = made("c2 1 3;t0 4 1;t1 5 1;t2 3 1;t3 3 1;r1 0 1;");
        due.is("plan(0, 0)", gone.plan(0, 0), 3);
        gone.fog(1);
        gone.hour();
        due.is("plan(0, 0): trains gone by are not canvassed", gone.plan(0, 0), 6);
        gone.fog(0);
        gone.hour();
        due.is("plan(0, 0): nor those that stopped", gone.plan(0, 0), 12);
        due.is("fewest, not least", made("c2 1 3;t0 1 1;t0 1 1;t0 4 1;t0 2 0;r1 0 1;").plan(0, 0), 4);
        for (int wrong : WRONG) {
            due.is("plan", gone.plan(wrong, 0), BAD);
            due.is("plan", gone.plan(0, wrong), BAD);
        }
        due.is("plan(2, 0)", gone.plan(2, 0), BAD);
        due.is("plan(0, 2)", gone.plan(0, 2), BAD);
    }

    private static void power() {
        due.part("promise 16");
        StrangerVotes x = made("c2 1 0;t0 3 1;t0 3 0;r5 1 0;");
        due.is("power(0)", x.power(0), 1);
        due.is("power(1)", x.power(1), 1);
        StrangerVotes y = made("c2 1 0;t0 3 1;t1 2 1;t2 1 0;r1 0 1;");
        // Without both 0 wins, by either 1 wins, whether the third stops or not.
        due.is("power(0)", y.power(0), 2);
        due.is("power(1)", y.power(1), 2);
        due.is("power(2)", y.power(2), 0);
        y.hour();
        due.is("power(0): it has stopped", y.power(0), STATE);
        due.is("power(1): votes now count", y.power(1), 0);
        y.fog(1);
        due.is("power(1) in fog", y.power(1), 0);
        y.hour();
        due.is("power(1): gone by", y.power(1), STATE);
        due.is("power(2)", y.power(2), 0);
        StrangerVotes z = made("c2 1 0;t0 3 1;t5 3 0;t5 1 1;r1 0 1;");
        z.hour();
        due.is("power(1)", z.power(1), 1);
        due.is("power(2)", z.power(2), 1);
        for (int wrong : WRONG) due.is("power", z.power(wrong), BAD);
        due.is("power(3)", z.power(3), BAD);
    }

    private static void laws() {
        due.part("promise 17");
        StrangerVotes x = made("c4 2 0;t0 9 3;t0 8 2;t1 7 1;r9 0 2;r8 1 3;");
        due.is("laws(0)", x.laws(0), 1 << 4);
        due.is("laws(1)", x.laws(1), 0);
        due.is("laws(2)", x.laws(2), 1 << 2 | 1 << 3);
        due.is("laws(3)", x.laws(3), 1 << 1);
        x.hour();
        due.is("laws(3) at 1 o'clock", x.laws(3), 1 << 1);
        due.is("laws(0): six", made("c6 1 0;").laws(0), 126);
        for (int wrong : WRONG) due.is("laws", x.laws(wrong), BAD);
        due.is("laws(4)", x.laws(4), BAD);
    }

    private static void odds() {
        due.part("promise 18");
        StrangerVotes x = made("c2 1 0;t0 3 1;t0 3 0;r5 1 0;");
        fraction(x, 4, 0, 19, 25);
        fraction(x, 4, 1, 6, 25);
        fraction(x, 0, 0, 1, 1);
        fraction(x, 0, 1, 0, 1);
        fraction(x, 10, 0, 1, 1);
        fraction(x, 10, 1, 0, 1);
        fraction(x, 5, 1, 1, 4);
        fraction(new StrangerVotes(), 7, 0, 1, 1);
        fraction(new StrangerVotes(), 7, 2, 0, 1);
        StrangerVotes most = made("c2 1 0;t0 1 1;t0 1 1;t0 1 1;t0 1 1;t0 1 1;t0 1 1;t0 1 1;t0 1 1;");
        fraction(most, 3, 0, 6561, 100000000);
        fraction(most, 3, 1, 99993439, 100000000);
        fraction(most, 9, 0, 43046721, 100000000);
        most.fog(1);
        most.hour();
        fraction(most, 3, 0, 1, 1);
        StrangerVotes gone = made("c2 1 0;t0 1 1;t1 2 0;t2 2 1;");
        gone.hour();
        // He loses if the second train stops and the third does not: 8 of 10 times 2 of 10.
        fraction(gone, 2, 1, 21, 25);
        gone.fog(1);
        fraction(gone, 2, 1, 21, 25);
        for (int wrong : WRONG) {
            due.is("odds", x.odds(wrong, 0, 0), BAD);
            due.is("odds", x.odds(0, wrong, 0), BAD);
            due.is("odds", x.odds(0, 0, wrong), BAD);
        }
        due.is("odds(11, 0, 0)", x.odds(11, 0, 0), BAD);
        due.is("odds(0, 2, 0)", x.odds(0, 2, 0), BAD);
        due.is("odds(0, 0, 2)", x.odds(0, 0, 2), BAD);
    }

    private static void hears() {
        due.part("promise 19");
        StrangerVotes x = new StrangerVotes();
        for (int wrong : WRONG) {
            due.is("hears", x.hears(wrong, 0), BAD);
            due.is("hears", x.hears(0, wrong), BAD);
        }
        due.is("hears(1, 1)", x.hears(1, 1), BAD);
        due.is("hears(3, 0)", x.hears(3, 0), BAD);
        due.is("hears(0, 3)", x.hears(0, 3), BAD);
        for (int i = 1; i <= 4; i++) due.is("hears(0, 1)", x.hears(0, 1), i);
        due.is("hears(0, 1)", x.hears(0, 1), FULL);
        due.is("hears(0, 0): BAD is ahead of FULL", x.hears(0, 0), BAD);
        due.is("count(4)", x.count(4), 4);
        x.hour();
        x.undo();
        due.is("count(4)", x.count(4), 4);
    }

    private static void forget() {
        due.part("promise 20");
        StrangerVotes x = new StrangerVotes();
        due.is("forget()", x.forget(), 0);
        x.hears(1, 0);
        x.hears(2, 0);
        due.is("forget()", x.forget(), 2);
        due.is("forget()", x.forget(), 0);
        due.is("likings(0)", x.likings(0), 6);
        due.is("hears(0, 1)", x.hears(0, 1), 1);
    }

    private static void likings() {
        due.part("promise 21");
        StrangerVotes x = made("c4 2 0;");
        due.is("likings(0)", x.likings(0), 12);
        due.is("likings(1)", x.likings(1), 1);
        x.hears(2, 1);
        // For 2 of 1 and 2: the first is 2 (3 twos), or the second is and the first is neither (02, 32).
        due.is("likings(0)", x.likings(0), 5);
        due.is("likings(1)", x.likings(1), 2);
        x.hears(3, 0);
        due.is("likings(0)", x.likings(0), 2);
        due.is("likings(1)", x.likings(1), 23);
        x.hears(3, 2);
        due.is("likings(0)", x.likings(0), 1);
        due.is("likings(1)", x.likings(1), 32);
        x.hears(0, 3);
        due.is("likings(0)", x.likings(0), 0);
        due.is("likings(1)", x.likings(1), NONE);
        StrangerVotes lower = made("c4 2 0;");
        lower.hears(0, 1);
        // For 0 of 0 and 1: 01 02 03 20 30, and by the lower 23 32.
        due.is("likings(0)", lower.likings(0), 7);
        for (int wrong : WRONG) due.is("likings", x.likings(wrong), BAD);
        due.is("likings(2)", x.likings(2), BAD);
        due.is("likings(0) of six", made("c6 2 0;").likings(0), 30);
    }

    private static void ask() {
        due.part("promise 22");
        due.is("ask() of three", new StrangerVotes().ask(), 1);
        due.is("ask() of two", made("c2 1 0;").ask(), 1);
        StrangerVotes x = made("c4 2 0;");
        // Of 0 and 1 seven are for 0; of 2 and 3 seven are for 2; and so on: all alike, so the least.
        due.is("ask() of four", x.ask(), 1);
        x.hears(2, 1);
        // Left: 02, 20, 21, 23, 32.
        due.is("ask()", x.ask(), 3);
        x.hears(3, 0);
        // Left: 23, 32.
        due.is("ask()", x.ask(), 23);
        x.hears(2, 3);
        due.is("ask(): one is left", x.ask(), NONE);
        x.hears(3, 2);
        due.is("ask(): none is left", x.ask(), NONE);
    }

    private static void mark() {
        due.part("promise 23");
        StrangerVotes x = made("c3 2 3;t0 5 1;t1 6 1;t2 7 1;t2 8 2;r3 1 0;r4 1 2;r5 2 1;");
        x.hour();
        due.is("one", x.mark(0, 1), 5);
        due.is("liberal", x.mark(1, 1), 7);
        due.is("liberal of the last", x.mark(1, 2), 1);
        due.is("liberal of none", x.mark(1, 0), 0);
        due.is("liberal of the first train", made("t3 5 1;").mark(1, 1), 1);
        due.is("tory", x.mark(2, 1), 3);
        due.is("guard", x.mark(3, 1), 14);
        due.is("porter", x.mark(4, 1), 4);
        due.is("mayor", x.mark(5, 1), 6);
        due.is("tory below 0", x.mark(2, 2), -1);
        due.is("porter", x.mark(4, 2), 1);
        x.fog(1);
        x.hour();
        due.is("liberal: gone by, but not stopped", x.mark(1, 1), 7);
        due.is("mayor", x.mark(5, 1), 7);
        x.rugs(0);
        due.is("tory: with a rug too", x.mark(2, 1), 6);
        for (int wrong : WRONG) {
            due.is("mark", x.mark(wrong, 0), NO);
            due.is("mark", x.mark(0, wrong), NO);
        }
        due.is("mark(6, 0)", x.mark(6, 0), NO);
        due.is("mark(0, 3)", x.mark(0, 3), NO);
    }

    private static void markTrace() {
        due.part("promise 27");
        int[] bodies = {1, 11, 101, 1011, 10101, 100001};
        long all = 0;
        StrangerVotes x = new StrangerVotes();
        for (int kind = 0; kind < bodies.length; kind++) {
            x.mark(kind, 0);
            all += bodies[kind];
            due.is("trace()", x.trace(), all);
        }
        x.mark(6, 0);
        x.mark(0, 3);
        due.is("trace(): refused calls ask none", x.trace(), all);
        x.hour();
        x.keep(0);
        x.mark(5, 0);
        x.undo();
        x.back(0);
        due.is("trace(): of all calls ever", x.trace(), all + 100001);
        due.is("trace(): objects have their own", new StrangerVotes().trace(), 0);
    }

    private static void images() {
        due.part("promises 24 and 25");
        StrangerVotes x = made("t0 5 1;t1 6 2;r4 0 1;");
        due.is("back(1)", x.back(1), STATE);
        due.is("keep(1)", x.keep(1), 0);
        due.is("back(0)", x.back(0), STATE);
        x.hour();
        due.is("keep(0)", x.keep(0), 1);
        x.hour();
        due.is("back(1)", x.back(1), 0);
        due.is("count(5)", x.count(5), 0);
        due.is("undo()", x.undo(), STATE);
        due.is("back(0)", x.back(0), 1);
        due.is("count(5)", x.count(5), 1);
        check(x, "votes now", new int[] {0, 5, 0});
        due.is("undo()", x.undo(), 0);
        check(x, "votes now", new int[] {0, 0, 0});
        due.is("back(0) again", x.back(0), 1);
        due.is("undo()", x.undo(), 0);
        due.is("now(0)", x.now(0), 0);
        for (int wrong : WRONG) {
            due.is("keep", x.keep(wrong), BAD);
            due.is("back", x.back(wrong), BAD);
        }
        due.is("keep(2)", x.keep(2), BAD);
        due.is("back(2)", x.back(2), BAD);
    }

    private static void imagesKeepAllOfNow() {
        due.part("promises 24 and 25, what an image has");
        StrangerVotes x = made("t0 5 1;t1 6 2;t4 1 0;r4 0 1;");
        x.hour();
        x.fog(1);
        x.rugs(0);
        x.canvasses(1, 0);
        x.holds(1);
        x.hears(0, 1);
        x.type('t');
        x.keep(0);
        for (int i = 0; i < 5; i++) x.undo();
        for (int h = 0; h < 12; h++) x.hour();
        x.forget();
        due.is("back(0)", x.back(0), 1);
        check(x, "now", new int[] {1, 2, 1, 3, 3, 0, 0});
        check(x, "votes now", new int[] {4, 5, 0});
        check(x, "train 0", new int[] {0, 5, 1, 1});
        check(x, "train 1", new int[] {2, 6, 0, 0});
        check(x, "group 0", new int[] {4, 0, 1, 1});
        check(x, "count", new int[] {3, 2, 3, 1, 0, 5, 1});
        due.is("undo() of held", x.undo(), 4);
        check(x, "train 1", new int[] {1, 6, 0, 0});
        due.is("undo() of canvassed", x.undo(), 3);
        check(x, "train 1", new int[] {1, 6, 2, 0});
        due.is("undo() of the rug", x.undo(), 2);
        check(x, "votes now", new int[] {0, 5, 0});
        due.is("undo() of fog", x.undo(), 1);
        due.is("now(2)", x.now(2), 0);
        due.is("undo() of the hour", x.undo(), 0);
        check(x, "train 0", new int[] {0, 5, 1, 0});
    }

    private static void count() {
        due.part("promise 26");
        StrangerVotes x = made("c5 3 0;t0 5 1;t0 6 2;r1 2 3;r1 2 3;r1 2 3;");
        x.hears(0, 1);
        x.hour();
        x.fog(1);
        write(x, "abcde");
        check(x, "count", new int[] {5, 3, 2, 3, 1, 2, 5});
        for (int wrong : WRONG) due.is("count", x.count(wrong), BAD);
        due.is("count(7)", x.count(7), BAD);
    }

    // ---- how the tests ask

    private static void write(StrangerVotes x, String text) {
        for (int i = 0; i < text.length(); i++) x.type(text.charAt(i));
    }

    private static int read(StrangerVotes x, String text) {
        write(x, text);
        return x.town();
    }

    private static StrangerVotes made(String text) {
        StrangerVotes x = new StrangerVotes();
        due.holds("is read: " + text, read(x, text) >= 0);
        return x;
    }

    private static void fault(String text, int place) {
        StrangerVotes x = new StrangerVotes();
        due.is("town() of " + text, read(x, text), -10 - place);
        due.is("bytes that stay of " + text, x.count(6), text.length());
        check(x, "count", new int[] {3, 2, 0, 0, 0, 0, text.length()});
    }

    private static void fraction(StrangerVotes x, int tenths, int c, int upper, int lower) {
        due.is("odds(" + tenths + ", " + c + ", 0)", x.odds(tenths, c, 0), upper);
        due.is("odds(" + tenths + ", " + c + ", 1)", x.odds(tenths, c, 1), lower);
    }

    private static void check(StrangerVotes x, String row, int[] want) {
        for (int i = 0; i < want.length; i++) due.is(row + ", " + i, cell(x, row, i), want[i]);
    }

    private static int cell(StrangerVotes x, String row, int i) {
        if (row.equals("count")) return x.count(i);
        if (row.equals("now")) return x.now(i);
        if (row.equals("votes now")) return x.votes(i, 0);
        if (row.equals("votes in the end")) return x.votes(i, 1);
        int which = row.charAt(row.length() - 1) - '0';
        return row.startsWith("train") ? x.train(which, i) : x.group(which, i);
    }
}
