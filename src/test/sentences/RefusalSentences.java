/** What is refused, in which order, and that nothing changes then; the constants. */
final class RefusalSentences extends Bench {
    private static final String REFUSED = "Refused, and nothing changes, the first of these: BAD (a number is not as told, "
        + "or there is no such thing), STATE (as told), FULL.";

    private RefusalSentences() {
    }

    @Sentence({REFUSED, "The constants: `NO = -1000000`: What none is, where a number may be below 0."})
    static void theConstants() {
        due.is("BAD", StrangerVotes.BAD, -1);
        due.is("STATE", StrangerVotes.STATE, -2);
        due.is("FULL", StrangerVotes.FULL, -3);
        due.is("NONE", StrangerVotes.NONE, -9);
        due.is("NO", StrangerVotes.NO, -1000000);
    }

    @Sentence("An object is used for at most 512 calls after it has been made; what later calls answer is free.")
    static void theLastOf512Calls() {
        StrangerVotes x = told("t0 5 1;");
        for (int i = 0; i < 251; i++) {
            due.is("hour()", x.hour(), 1);
            due.is("undo()", x.undo(), 0);
        }
        due.is("hour(), the 511th call", x.hour(), 1);
        due.is("votes(1, 0), the 512th call", x.votes(1, 0), 5);
    }

    @Sentence(REFUSED)
    static void badIsAheadOfFull() {
        StrangerVotes x = new StrangerVotes();
        for (int i = 0; i < 120; i++) x.type(32);
        due.is("type(256)", x.type(256), BAD);
        due.is("type(-1)", x.type(-1), BAD);
        due.is("type(255)", x.type(255), FULL);
        for (int i = 0; i < 4; i++) x.hears(0, 1);
        due.is("hears(0, 0)", x.hears(0, 0), BAD);
        due.is("hears(0, 3)", x.hears(0, 3), BAD);
        due.is("hears(-1, 0)", x.hears(-1, 0), BAD);
        due.is("hears(1, 2)", x.hears(1, 2), FULL);
    }

    @Sentence(REFUSED)
    static void badIsAheadOfState() {
        StrangerVotes x = told("c3 1 0;t0 5 1;r4 0 1;");
        due.is("canvasses(0, 3) without buns", x.canvasses(0, 3), BAD);
        due.is("canvasses(0, -1) without buns", x.canvasses(0, -1), BAD);
        due.is("canvasses(1, 0) without buns", x.canvasses(1, 0), BAD);
        x.rugs(0);
        hours(x, 24);
        due.is("canvasses(0, 3) of one that has stopped", x.canvasses(0, 3), BAD);
        due.is("holds(1) at 24", x.holds(1), BAD);
        due.is("power(1) at 24", x.power(1), BAD);
        due.is("rugs(1)", x.rugs(1), BAD);
        due.is("fog(2)", x.fog(2), BAD);
        due.is("fog(-1)", x.fog(-1), BAD);
        due.is("back(2), none was kept", x.back(2), BAD);
        due.is("back(-1), none was kept", x.back(-1), BAD);
    }

    @Sentence(REFUSED)
    static void noSuchThing() {
        StrangerVotes x = new StrangerVotes();
        due.is("train(0, 0)", x.train(0, 0), BAD);
        due.is("group(0, 0)", x.group(0, 0), BAD);
        due.is("holds(0)", x.holds(0), BAD);
        due.is("canvasses(0, 0)", x.canvasses(0, 0), BAD);
        due.is("rugs(0)", x.rugs(0), BAD);
        due.is("power(0)", x.power(0), BAD);
        due.is("votes(3, 0)", x.votes(3, 0), BAD);
        due.is("mark(0, 3)", x.mark(0, 3), NO);
    }

    @Sentence("Refused, and nothing changes,")
    static void whatIsBadChangesNothing() {
        StrangerVotes x = told("c4 2 3;t0 5 1;t1 6 2;t9 1 0;r4 0 1;r3 1 2;");
        x.hour();
        x.fog(1);
        x.rugs(0);
        x.hears(0, 1);
        x.mark(1, 1);
        type(x, "t1");
        x.keep(0);
        String before = look(x);
        for (int wrong : new int[] {-1, Integer.MIN_VALUE, Integer.MAX_VALUE, 1000, 256}) {
            for (String call : new String[] {"type", "train", "group", "votes", "holds", "canvasses", "fog", "rugs", "now",
                "plan", "power", "laws", "odds", "hears", "likings", "keep", "back", "count"}) {
                due.is(call + "(" + wrong + ", 0, 0)", Calls.answer(x, call, wrong, 0, 0), BAD);
            }
            for (String call : new String[] {"train", "group", "votes", "canvasses", "plan", "odds", "hears"}) {
                due.is(call + "(0, " + wrong + ", 0)", Calls.answer(x, call, 0, wrong, 0), BAD);
            }
            due.is("odds(0, 0, " + wrong + ")", x.odds(0, 0, wrong), BAD);
            due.is("mark(0, " + wrong + ")", x.mark(0, wrong), NO);
            due.is("mark(" + wrong + ", 0)", x.mark(wrong, 0), NO);
        }
        due.is("hears(2, 2)", x.hears(2, 2), BAD);
        same("refused", look(x), before);
        due.is("undo()", x.undo(), 2);
        due.is("back(1)", x.back(1), STATE);
        due.is("back(0)", x.back(0), 1);
        same("refused, and the image", look(x), before);
    }

    @Sentence("Refused, and nothing changes,")
    static void whatIsRefusedByStateChangesNothing() {
        StrangerVotes x = told("c4 2 1;t0 5 1;t1 6 2;t23 1 0;t0 7 3;r4 0 1;r3 1 2;");
        x.holds(3);
        x.hour();
        x.fog(1);
        x.hour();
        x.rugs(0);
        String some = look(x);
        due.is("canvasses(0, 0) of one that has stopped", x.canvasses(0, 0), STATE);
        due.is("canvasses(1, 2) that likes him", x.canvasses(1, 2), STATE);
        due.is("holds(0) that has stopped", x.holds(0), STATE);
        due.is("holds(1) of an hour gone by", x.holds(1), STATE);
        due.is("holds(2) of 23", x.holds(2), STATE);
        due.is("fog(1)", x.fog(1), STATE);
        due.is("rugs(0)", x.rugs(0), STATE);
        due.is("power(0)", x.power(0), STATE);
        due.is("power(3)", x.power(3), STATE);
        due.is("back(0)", x.back(0), STATE);
        due.is("back(1)", x.back(1), STATE);
        same("refused", look(x), some);
        x.canvasses(3, 0);
        String none = look(x);
        due.is("canvasses(3, 1) without buns", x.canvasses(3, 1), STATE);
        same("refused without buns", look(x), none);
        due.is("undo()", x.undo(), 5);
        same("undone", look(x), some);
    }

    @Sentence("Refused, and nothing changes,")
    static void undoAndHoursRefusedChangeNothing() {
        StrangerVotes x = told("t0 5 1;t23 6 2;");
        String first = look(x);
        due.is("undo()", x.undo(), STATE);
        same("undo() of none", look(x), first);
        hours(x, 24);
        String last = look(x);
        due.is("hour() at 24", x.hour(), STATE);
        same("hour() at 24", look(x), last);
        due.is("undo()", x.undo(), 9);
        due.is("now(0)", x.now(0), 23);
    }

    @Sentence("Refused, and nothing changes,")
    static void whatIsFullChangesNothing() {
        StrangerVotes x = told("c4 2 0;");
        x.hears(2, 1);
        x.hears(3, 0);
        x.hears(3, 0);
        x.hears(2, 1);
        type(x, "t1 2 0;");
        for (int i = 7; i < 120; i++) x.type(32);
        String before = look(x);
        due.is("hears(0, 1)", x.hears(0, 1), FULL);
        due.is("type(35)", x.type(35), FULL);
        same("refused", look(x), before);
        due.is("town()", x.town(), 1);
    }
}
