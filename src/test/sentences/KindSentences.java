/** Part 4: kinds, images; promises 23 to 27. */
final class KindSentences extends Bench {
    private static final int ONE = 0, LIBERAL = 1, TORY = 2, GUARD = 3, PORTER = 4, MAYOR = 5;
    private static final String UNDER = "KINDS of CANDIDATES are over one another: 0 ONE; 1 LIBERAL, 2 TORY, 5 MAYOR "
        + "(each under ONE); 3 GUARD (under LIBERAL); 4 PORTER (under TORY).";
    private static final String TRACE =
        "(numbers in brackets come to THE TRACE (0 at first; of all calls ever, together) as often as mark() asks that body;";
    private static final String IMAGES = "IMAGES 0, 1 keep NOW (the HOUR, VOTES, what TRAINS are like, have STOPPED, BUNS, "
        + "FOG, RUGS, what may be UNDONE); nothing else.";
    private static final String BACK = "All of that becomes as an IMAGE has it: the HOUR. BAD; STATE: none was kept.";
    private static final String COUNT = "0 CANDIDATES, 1 LEFT, 2 TRAINS, 3 groups of RESIDENTS, 4 HEARD, "
        + "5 how many may be UNDONE, 6 bytes of THE TEXT. BAD.";

    private KindSentences() {
    }

    // ---- marks

    @Sentence({UNDER, "MARK of one as if of a KIND", "ONE his VOTES (1)."})
    static void markOfOne() {
        StrangerVotes x = told("t0 5 1;t1 6 1;r4 2 0;");
        due.is("mark(0, 1)", x.mark(ONE, 1), 0);
        x.hour();
        x.rugs(0);
        due.is("mark(0, 0)", x.mark(ONE, 0), 0);
        due.is("mark(0, 1)", x.mark(ONE, 1), 5);
        due.is("mark(0, 2)", x.mark(ONE, 2), 4);
    }

    @Sentence("LIBERAL up, and how many TRAINS that have not STOPPED LIKE him (10).")
    static void markOfALiberal() {
        StrangerVotes x = told("t0 5 1;t1 6 1;t2 7 1;t2 8 2;r9 1 0;");
        due.is("mark(1, 1)", x.mark(LIBERAL, 1), 3);
        x.hour();
        due.is("mark(1, 1): votes, and two trains", x.mark(LIBERAL, 1), 7);
        due.is("mark(1, 2)", x.mark(LIBERAL, 2), 1);
        due.is("mark(1, 0)", x.mark(LIBERAL, 0), 0);
        x.canvasses(3, 1);
        due.is("mark(1, 1): canvassed", x.mark(LIBERAL, 1), 8);
        x.fog(1);
        x.hour();
        due.is("mark(1, 1): gone by, but not stopped", x.mark(LIBERAL, 1), 8);
    }

    @Sentence("TORY up less how many groups have him as FIRST (100).")
    static void markOfATory() {
        StrangerVotes x = told("t0 5 1;r3 1 0;r4 1 2;r5 2 1;");
        due.is("mark(2, 1) below 0", x.mark(TORY, 1), -2);
        due.is("mark(2, 0): a second is no first", x.mark(TORY, 0), 0);
        x.hour();
        due.is("mark(2, 1)", x.mark(TORY, 1), 3);
        due.is("mark(2, 2)", x.mark(TORY, 2), -1);
        x.rugs(0);
        due.is("mark(2, 1): he is its first, with a rug too", x.mark(TORY, 1), 6);
    }

    @Sentence("GUARD up times 2 (1000).")
    static void markOfAGuard() {
        StrangerVotes x = told("t0 5 1;t1 6 1;t2 7 1;t2 8 2;r9 1 0;");
        x.hour();
        due.is("mark(3, 1): twice a liberal", x.mark(GUARD, 1), 14);
        due.is("mark(3, 2)", x.mark(GUARD, 2), 2);
        due.is("mark(3, 0)", x.mark(GUARD, 0), 0);
    }

    @Sentence("PORTER up, and his number (10000).")
    static void markOfAPorter() {
        StrangerVotes x = told("c4 1 0;t0 5 1;t1 6 1;r3 1 0;r4 1 2;r5 2 1;");
        x.hour();
        due.is("mark(4, 1): a tory, and 1", x.mark(PORTER, 1), 4);
        due.is("mark(4, 2)", x.mark(PORTER, 2), 1);
        due.is("mark(4, 0)", x.mark(PORTER, 0), 0);
        due.is("mark(4, 3)", x.mark(PORTER, 3), 3);
    }

    @Sentence("MAYOR up, and the HOUR (100000).")
    static void markOfAMayor() {
        StrangerVotes x = told("t0 5 1;t1 6 1;r3 1 0;");
        due.is("mark(5, 1)", x.mark(MAYOR, 1), 0);
        x.hour();
        due.is("mark(5, 1): one, and the hour", x.mark(MAYOR, 1), 6);
        due.is("mark(5, 0)", x.mark(MAYOR, 0), 1);
        hours(x, 23);
        due.is("mark(5, 1)", x.mark(MAYOR, 1), 35);
    }

    @Sentence("MARK. NO: BAD.")
    static void markIsNo() {
        StrangerVotes x = told("c4 1 0;t0 5 1;");
        for (int wrong : new int[] {-1, 6, 7, Integer.MIN_VALUE, Integer.MAX_VALUE}) {
            due.is("mark(" + wrong + ", 0)", x.mark(wrong, 0), NO);
        }
        for (int wrong : new int[] {-1, 4, 6, 32, Integer.MIN_VALUE, Integer.MAX_VALUE}) {
            for (int kind = 0; kind <= 5; kind++) due.is("mark(" + kind + ", " + wrong + ")", x.mark(kind, wrong), NO);
        }
        due.is("trace()", x.trace(), 0);
    }

    // ---- the trace

    @Sentence({TRACE, "\"up\" is what the KIND above does, asked once):", "THE TRACE."})
    static void eachBodyComesToTheTrace() {
        int[] bodies = {1, 11, 101, 1011, 10101, 100001};
        long all = 0;
        StrangerVotes x = told("c4 1 0;t0 5 1;r3 1 0;");
        due.is("trace() at first", x.trace(), 0);
        for (int kind = 0; kind < bodies.length; kind++) {
            for (int c = 0; c < 4; c++) {
                x.mark(kind, c);
                all += bodies[kind];
                due.is("trace() behind mark(" + kind + ", " + c + ")", x.trace(), all);
            }
        }
        due.is("trace() again", x.trace(), all);
    }

    @Sentence("(0 at first; of all calls ever, together)")
    static void theTraceIsOfAllCallsEver() {
        StrangerVotes x = told("t0 5 1;r3 1 0;");
        x.mark(MAYOR, 1);
        x.keep(0);
        x.hour();
        x.mark(PORTER, 0);
        x.undo();
        due.is("trace() behind undo()", x.trace(), 110102);
        x.back(0);
        due.is("trace() behind back()", x.trace(), 110102);
        read(x, "c2 1 0;");
        due.is("trace() behind town()", x.trace(), 110102);
        due.is("trace() of another object", new StrangerVotes().trace(), 0);
    }

    @Sentence("as often as mark() asks that body;")
    static void otherCallsAskNoBody() {
        StrangerVotes x = told("t0 5 1;t1 4 0;r3 1 0;");
        x.votes(1, 0);
        x.votes(1, 1);
        x.hour();
        x.rugs(0);
        x.now(5);
        x.plan(0, 1);
        x.power(1);
        x.laws(0);
        x.odds(5, 1, 0);
        x.mark(6, 0);
        x.mark(0, 3);
        due.is("trace()", x.trace(), 0);
    }

    @Sentence({TRACE, "THE TRACE."})
    static void theTraceOfManyMarks() {
        StrangerVotes x = new StrangerVotes();
        for (int i = 0; i < 500; i++) x.mark(MAYOR, i % 3);
        due.is("trace()", x.trace(), 50000500L);
    }

    // ---- images

    @Sentence({IMAGES, "An IMAGE is kept: the HOUR. BAD."})
    static void keepAnswersTheHour() {
        StrangerVotes x = told("t0 5 1;");
        due.is("keep(0)", x.keep(0), 0);
        hours(x, 5);
        due.is("keep(1)", x.keep(1), 5);
        hours(x, 20);
        due.is("keep(0)", x.keep(0), 24);
        due.is("back(0)", x.back(0), 24);
        due.is("back(1)", x.back(1), 5);
    }

    @Sentence({"An IMAGE is kept: the HOUR. BAD.", "IMAGES 0, 1 keep NOW"})
    static void imagesAre0And1() {
        StrangerVotes x = told("t0 5 1;");
        for (int wrong : new int[] {-1, 2, 3, Integer.MIN_VALUE, Integer.MAX_VALUE}) {
            due.is("keep(" + wrong + ")", x.keep(wrong), BAD);
            due.is("back(" + wrong + ")", x.back(wrong), BAD);
        }
        due.is("back(0)", x.back(0), STATE);
        due.is("back(1)", x.back(1), STATE);
    }

    @Sentence(BACK)
    static void noneWasKept() {
        StrangerVotes x = told("t0 5 1;");
        x.hour();
        due.is("back(0)", x.back(0), STATE);
        due.is("back(1)", x.back(1), STATE);
        x.keep(1);
        x.hour();
        due.is("back(0)", x.back(0), STATE);
        due.is("now(0)", x.now(0), 2);
        due.is("back(1)", x.back(1), 1);
        x.undo();
        x.keep(0);
        due.is("back(0)", x.back(0), 0);
        due.is("back(1)", x.back(1), 1);
    }

    @Sentence({IMAGES, BACK})
    static void allOfNowIsKept() {
        StrangerVotes x = told("t0 5 1;t1 6 2;t4 1 0;r4 0 1;r3 1 2;");
        x.hour();
        x.fog(1);
        x.rugs(0);
        x.canvasses(1, 0);
        x.holds(1);
        String kept = look(x);
        due.is("keep(0)", x.keep(0), 1);
        for (int i = 0; i < 5; i++) x.undo();
        x.rugs(1);
        hours(x, 12);
        x.canvasses(2, 2);
        due.is("back(0)", x.back(0), 1);
        same("back(0)", look(x), kept);
        due.is("undo() of held", x.undo(), 4);
        rows("train 1", train(x, 1), 1, 6, 0, 0);
        due.is("undo() of canvassed", x.undo(), 3);
        rows("train 1", train(x, 1), 1, 6, 2, 0);
        due.is("undo() of the rug", x.undo(), 2);
        rows("votes", votes(x), 0, 5, 0);
        due.is("undo() of fog", x.undo(), 1);
        due.is("now(2)", x.now(2), 0);
        due.is("undo() of the hour", x.undo(), 0);
        rows("train 0", train(x, 0), 0, 5, 1, 0);
        due.is("undo()", x.undo(), STATE);
        due.is("back(0) again", x.back(0), 1);
        same("back(0) again", look(x), kept);
    }

    @Sentence("what may be UNDONE); nothing else.")
    static void whatMayBeUndoneIsKept() {
        StrangerVotes x = told("t0 5 1;");
        x.keep(0);
        hours(x, 14);
        x.keep(1);
        due.is("back(0)", x.back(0), 0);
        due.is("undo()", x.undo(), STATE);
        due.is("count(5)", x.count(5), 0);
        due.is("back(1)", x.back(1), 14);
        due.is("count(5)", x.count(5), 10);
        for (int left = 9; left >= 0; left--) {
            due.is("undo()", x.undo(), left);
            due.is("now(0)", x.now(0), left + 4);
        }
        due.is("undo()", x.undo(), STATE);
        due.is("back(1)", x.back(1), 14);
        x.fog(1);
        due.is("undo()", x.undo(), 9);
        due.is("undo()", x.undo(), 8);
        due.is("now(0)", x.now(0), 13);
    }

    @Sentence("what may be UNDONE); nothing else.")
    static void nothingElseIsKept() {
        StrangerVotes x = told("t0 5 1;r4 0 1;");
        x.hears(0, 1);
        type(x, "t1");
        x.mark(ONE, 0);
        x.keep(0);
        x.hears(2, 1);
        type(x, " 2");
        x.mark(LIBERAL, 0);
        x.keep(1);
        x.hour();
        due.is("back(0)", x.back(0), 0);
        due.is("count(4)", x.count(4), 2);
        due.is("count(6)", x.count(6), 4);
        due.is("trace()", x.trace(), 12);
        due.is("back(1) is kept still", x.back(1), 0);
        x.forget();
        x.clear();
        x.back(0);
        due.is("count(4)", x.count(4), 0);
        due.is("count(6)", x.count(6), 0);
    }

    @Sentence({IMAGES, BACK})
    static void anImageIsKeptAnew() {
        StrangerVotes x = told("t0 5 1;t1 4 2;");
        x.keep(0);
        x.hour();
        x.keep(1);
        x.hour();
        due.is("keep(0)", x.keep(0), 2);
        x.undo();
        x.undo();
        due.is("back(0)", x.back(0), 2);
        rows("votes", votes(x), 0, 5, 4);
        due.is("back(1)", x.back(1), 1);
        rows("votes", votes(x), 0, 5, 0);
        due.is("back(0)", x.back(0), 2);
        due.is("count(5)", x.count(5), 2);
    }

    @Sentence({IMAGES, BACK})
    static void deedsDoNotChangeAnImage() {
        StrangerVotes x = told("t0 5 1;t0 4 2;r4 0 1;");
        x.keep(0);
        String kept = look(x);
        x.back(0);
        x.canvasses(0, 0);
        x.holds(1);
        x.hour();
        x.rugs(0);
        x.fog(1);
        x.back(0);
        same("back(0)", look(x), kept);
    }

    // ---- counts

    @Sentence(COUNT)
    static void countTellsSevenThings() {
        StrangerVotes x = told("c5 3 0;t0 5 1;t0 6 2;r1 2 3;r1 2 3;r1 2 3;");
        x.hears(0, 1);
        x.hour();
        x.fog(1);
        type(x, "abcde");
        rows("counts", counts(x), 5, 3, 2, 3, 1, 2, 5);
    }

    @Sentence(COUNT)
    static void countIsBad() {
        StrangerVotes x = new StrangerVotes();
        for (int wrong : new int[] {-1, 7, 8, Integer.MIN_VALUE, Integer.MAX_VALUE}) {
            due.is("count(" + wrong + ")", x.count(wrong), BAD);
        }
    }
}
