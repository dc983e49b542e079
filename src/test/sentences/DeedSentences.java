/** Part 2: hours that go by, trains held and canvassed, fog, rugs, and all of it undone; promises 8 to 13. */
final class DeedSentences extends Bench {
    private static final String AN_HOUR = "AN HOUR: how many TRAINS STOP. STATE: it is 24.";
    private static final String HELD = "HELD: the HOUR. BAD; STATE: it has STOPPED, is of 23, of an HOUR that is gone by.";
    private static final String CANVASSED =
        "CANVASSED: BUNS that are left. BAD; STATE: it has STOPPED, LIKES him, there are no BUNS.";
    private static final String KNOWN = "(10 are known, older ones are lost)";

    private DeedSentences() {
    }

    // ---- hours

    @Sentence({"AN HOUR goes by (24 at most):", "AN HOUR: how many TRAINS STOP. STATE: it is 24."})
    static void hoursAre24AtMost() {
        StrangerVotes x = told("t0 1 0;t23 5 1;t22 7 1;");
        due.is("hour() of 0", x.hour(), 1);
        for (int h = 1; h < 22; h++) {
            due.is("hour() of " + h, x.hour(), 0);
            due.is("now(0)", x.now(0), h + 1);
        }
        due.is("hour() of 22", x.hour(), 1);
        due.is("hour() of 23", x.hour(), 1);
        due.is("now(0)", x.now(0), 24);
        String before = look(x);
        due.is("hour() of 24", x.hour(), STATE);
        due.is("hour() of 24", x.hour(), STATE);
        same("hour() of 24", look(x), before);
        rows("votes", votes(x), 1, 12, 0);
    }

    @Sentence({"each TRAIN of the HOUR that has not STOPPED: if there is no FOG, it STOPS (it has STOPPED then):",
        "whom it LIKES has CROWD VOTES more;"})
    static void trainsOfTheHourStop() {
        StrangerVotes x = told("t1 5 2;t0 6 1;t0 30 2;t2 4 0;t0 1 1;");
        due.is("hour()", x.hour(), 3);
        rows("votes", votes(x), 0, 7, 30);
        int[] stopped = {0, 1, 1, 0, 1};
        for (int t = 0; t < 5; t++) due.is("train(" + t + ", 3)", x.train(t, 3), stopped[t]);
        due.is("hour()", x.hour(), 1);
        rows("votes", votes(x), 0, 7, 35);
        due.is("hour()", x.hour(), 1);
        rows("votes", votes(x), 4, 7, 35);
        due.is("hour()", x.hour(), 0);
    }

    @Sentence("each TRAIN of the HOUR that has not STOPPED: if there is no FOG, it STOPS (it has STOPPED then):")
    static void allEightTrainsStop() {
        StrangerVotes x = told("t0 30 0;t0 30 0;t0 30 0;t0 30 0;t0 30 0;t0 30 0;t0 30 0;t0 30 0;");
        due.is("hour()", x.hour(), 8);
        due.is("votes(0, 0)", x.votes(0, 0), 240);
        for (int t = 0; t < 8; t++) due.is("train(" + t + ", 3)", x.train(t, 3), 1);
    }

    @Sentence("if there is no FOG, it STOPS (it has STOPPED then):")
    static void noTrainStopsInFog() {
        StrangerVotes x = told("t0 6 1;t1 5 2;t2 7 0;");
        x.fog(1);
        due.is("hour() in fog", x.hour(), 0);
        due.is("train(0, 3)", x.train(0, 3), 0);
        rows("votes", votes(x), 0, 0, 0);
        due.is("hour() in fog", x.hour(), 0);
        x.fog(0);
        due.is("hour(): those left behind don't stop", x.hour(), 1);
        rows("votes", votes(x), 7, 0, 0);
        due.is("train(1, 3)", x.train(1, 3), 0);
    }

    @Sentence("then the HOUR is one more.")
    static void theHourIsOneMore() {
        StrangerVotes x = new StrangerVotes();
        due.is("hour() without trains", x.hour(), 0);
        due.is("now(0)", x.now(0), 1);
        x.fog(1);
        due.is("hour() in fog", x.hour(), 0);
        due.is("now(0)", x.now(0), 2);
        StrangerVotes y = told("t0 6 1;");
        y.hour();
        due.is("now(0) behind trains that stop", y.now(0), 1);
        due.is("train(0, 0)", y.train(0, 0), 0);
    }

    // ---- held

    @Sentence({"HELD: a TRAIN that has not STOPPED, of the HOUR or later: its own HOUR is one more (23 at most).", HELD})
    static void aHeldTrainComesLater() {
        StrangerVotes x = told("t0 5 1;t3 6 2;");
        due.is("holds(0) of the hour", x.holds(0), 1);
        due.is("holds(1) of later", x.holds(1), 4);
        due.is("train(0, 0)", x.train(0, 0), 1);
        due.is("train(1, 0)", x.train(1, 0), 4);
        due.is("now(0)", x.now(0), 0);
        due.is("hour()", x.hour(), 0);
        due.is("holds(0) of the hour", x.holds(0), 2);
        due.is("hour()", x.hour(), 0);
        due.is("hour()", x.hour(), 1);
        rows("votes", votes(x), 0, 5, 0);
        due.is("now(1): no buns for it", x.now(1), 3);
    }

    @Sentence({"its own HOUR is one more (23 at most).", HELD})
    static void heldUpTo23() {
        StrangerVotes x = told("t22 5 1;t23 6 2;");
        due.is("holds(0)", x.holds(0), 23);
        due.is("holds(0) of 23", x.holds(0), STATE);
        due.is("holds(1) of 23", x.holds(1), STATE);
        due.is("train(0, 0)", x.train(0, 0), 23);
        due.is("count(5)", x.count(5), 1);
        hours(x, 23);
        due.is("holds(1) of the hour, 23", x.holds(1), STATE);
        due.is("hour()", x.hour(), 2);
    }

    @Sentence({"HELD: a TRAIN that has not STOPPED, of the HOUR or later:", HELD})
    static void noTrainThatStoppedIsHeld() {
        StrangerVotes x = told("t0 5 1;t5 6 2;");
        x.hour();
        due.is("holds(0)", x.holds(0), STATE);
        due.is("train(0, 0)", x.train(0, 0), 0);
        x.undo();
        due.is("holds(0), undone", x.holds(0), 1);
    }

    @Sentence({"HELD: a TRAIN that has not STOPPED, of the HOUR or later:", HELD})
    static void noTrainGoneByIsHeld() {
        StrangerVotes x = told("t0 5 1;t1 6 2;");
        x.fog(1);
        x.hour();
        due.is("holds(0) of an hour gone by", x.holds(0), STATE);
        due.is("holds(1) in fog", x.holds(1), 2);
        due.is("train(0, 0)", x.train(0, 0), 0);
        hours(x, 23);
        due.is("holds(1) at 24", x.holds(1), STATE);
        x.fog(0);
        due.is("holds(0) without fog", x.holds(0), STATE);
        due.is("train(1, 0)", x.train(1, 0), 2);
    }

    @Sentence(HELD)
    static void holdsIsBad() {
        StrangerVotes x = told("t0 5 1;t1 6 2;");
        for (int wrong : new int[] {-1, 2, 8, 32, 33, Integer.MIN_VALUE, Integer.MAX_VALUE}) {
            due.is("holds(" + wrong + ")", x.holds(wrong), BAD);
        }
        due.is("holds(0) of no trains", new StrangerVotes().holds(0), BAD);
    }

    // ---- canvassed

    @Sentence({"CANVASSED: a TRAIN that has not STOPPED LIKES another CANDIDATE: BUNS are one less.", CANVASSED})
    static void aCanvassedTrainLikesAnother() {
        StrangerVotes x = told("c3 2 3;t0 5 1;t4 6 2;");
        due.is("canvasses(0, 2)", x.canvasses(0, 2), 2);
        due.is("train(0, 2)", x.train(0, 2), 2);
        due.is("now(1)", x.now(1), 2);
        due.is("canvasses(1, 0) of later", x.canvasses(1, 0), 1);
        due.is("canvasses(0, 1), as it was", x.canvasses(0, 1), 0);
        x.hour();
        rows("votes", votes(x), 0, 5, 0);
        rows("votes in the end", votesInTheEnd(x), 6, 5, 0);
    }

    @Sentence(CANVASSED)
    static void noTrainThatStoppedIsCanvassed() {
        StrangerVotes x = told("t0 5 1;");
        x.hour();
        due.is("canvasses(0, 2)", x.canvasses(0, 2), STATE);
        due.is("train(0, 2)", x.train(0, 2), 1);
        due.is("now(1)", x.now(1), 3);
        due.is("count(5)", x.count(5), 1);
    }

    @Sentence(CANVASSED)
    static void noTrainThatLikesHimIsCanvassed() {
        StrangerVotes x = told("t0 5 1;");
        due.is("canvasses(0, 1)", x.canvasses(0, 1), STATE);
        due.is("now(1)", x.now(1), 3);
        x.canvasses(0, 0);
        due.is("canvasses(0, 0)", x.canvasses(0, 0), STATE);
        due.is("now(1)", x.now(1), 2);
        due.is("count(5)", x.count(5), 1);
    }

    @Sentence({CANVASSED, "BUNS (0 .. 20; 3 at first)."})
    static void noTrainIsCanvassedWithoutBuns() {
        StrangerVotes none = told("c2 1 0;t0 5 1;");
        due.is("canvasses(0, 0)", none.canvasses(0, 0), STATE);
        due.is("now(1)", none.now(1), 0);
        due.is("count(5)", none.count(5), 0);
        StrangerVotes x = told("t0 5 1;");
        for (int left = 2; left >= 0; left--) due.is("canvasses", x.canvasses(0, left == 1 ? 1 : 2), left);
        due.is("canvasses(0, 1)", x.canvasses(0, 1), STATE);
        rows("train 0", train(x, 0), 0, 5, 2, 0);
        x.undo();
        due.is("canvasses(0, 2), a bun is back", x.canvasses(0, 2), 0);
    }

    @Sentence({"CANVASSED: a TRAIN that has not STOPPED LIKES another CANDIDATE: BUNS are one less.", CANVASSED})
    static void aTrainLeftInFogIsCanvassed() {
        StrangerVotes x = told("t0 5 1;");
        x.fog(1);
        hours(x, 3);
        due.is("canvasses(0, 2)", x.canvasses(0, 2), 2);
        due.is("train(0, 2)", x.train(0, 2), 2);
    }

    @Sentence(CANVASSED)
    static void canvassesIsBad() {
        StrangerVotes x = told("c4 1 5;t0 5 1;t1 6 2;");
        for (int wrong : new int[] {-1, 2, 8, 32, 33, Integer.MIN_VALUE, Integer.MAX_VALUE}) {
            due.is("canvasses(" + wrong + ", 0)", x.canvasses(wrong, 0), BAD);
        }
        for (int wrong : new int[] {-1, 4, 6, 32, 33, Integer.MIN_VALUE, Integer.MAX_VALUE}) {
            due.is("canvasses(0, " + wrong + ")", x.canvasses(0, wrong), BAD);
        }
        due.is("canvasses(1, 3)", x.canvasses(1, 3), 4);
    }

    // ---- fog

    @Sentence({"FOG: it comes (1), lifts (0).", "FOG: how many TRAINS have not STOPPED. BAD; STATE: it is so."})
    static void fogComesAndLifts() {
        StrangerVotes x = told("t0 5 1;t1 6 2;t2 3 0;");
        due.is("fog(1)", x.fog(1), 3);
        due.is("now(2)", x.now(2), 1);
        due.is("fog(0)", x.fog(0), 3);
        due.is("now(2)", x.now(2), 0);
        x.hour();
        due.is("fog(1)", x.fog(1), 2);
        x.hour();
        due.is("fog(0): of an hour gone by, but not stopped", x.fog(0), 2);
        x.hour();
        due.is("fog(1)", x.fog(1), 1);
        due.is("fog(0) without trains", new StrangerVotes().fog(1), 0);
    }

    @Sentence("FOG: how many TRAINS have not STOPPED. BAD; STATE: it is so.")
    static void fogIsSo() {
        StrangerVotes x = told("t0 5 1;");
        due.is("fog(0)", x.fog(0), STATE);
        x.fog(1);
        due.is("fog(1)", x.fog(1), STATE);
        due.is("now(2)", x.now(2), 1);
        due.is("count(5)", x.count(5), 1);
        x.fog(0);
        due.is("fog(0)", x.fog(0), STATE);
        due.is("count(5)", x.count(5), 2);
    }

    @Sentence("FOG: how many TRAINS have not STOPPED. BAD; STATE: it is so.")
    static void fogIsBad() {
        StrangerVotes x = told("t0 5 1;");
        for (int wrong : new int[] {-1, 2, 3, Integer.MIN_VALUE, Integer.MAX_VALUE}) {
            due.is("fog(" + wrong + ")", x.fog(wrong), BAD);
        }
        due.is("now(2)", x.now(2), 0);
    }

    // ---- rugs

    @Sentence({"RUG: a group of RESIDENTS without one goes out and comes in again: its FIRST has MANY VOTES more;",
        "RUG: VOTES of its FIRST. BAD; STATE: it has one."})
    static void aRugIsWorthVotesOfTheFirst() {
        StrangerVotes x = told("t0 5 1;r6 1 2;r7 1 0;r30 2 0;");
        x.hour();
        due.is("rugs(0)", x.rugs(0), 11);
        rows("votes", votes(x), 0, 11, 0);
        due.is("rugs(1)", x.rugs(1), 18);
        due.is("rugs(2)", x.rugs(2), 30);
        rows("votes", votes(x), 0, 18, 30);
    }

    @Sentence({"it has a RUG (votes no more as RESIDENTS).", "RUG: VOTES of its FIRST. BAD; STATE: it has one."})
    static void aGroupHasOneRug() {
        StrangerVotes x = told("r6 1 2;r7 1 0;");
        x.rugs(0);
        due.is("group(0, 3)", x.group(0, 3), 1);
        due.is("group(1, 3)", x.group(1, 3), 0);
        due.is("rugs(0)", x.rugs(0), STATE);
        rows("votes", votes(x), 0, 6, 0);
        due.is("count(5)", x.count(5), 1);
        x.undo();
        due.is("rugs(0), undone", x.rugs(0), 6);
    }

    @Sentence("it has a RUG (votes no more as RESIDENTS).")
    static void aRugVotesNoMore() {
        StrangerVotes x = told("c3 3 0;r9 2 1;r4 1 0;");
        due.is("now(5)", x.now(5), 2);
        x.rugs(0);
        due.is("now(5)", x.now(5), 1);
        due.is("now(6)", x.now(6), 1);
        x.rugs(1);
        due.is("now(5): the lowest, nobody votes", x.now(5), 0);
    }

    @Sentence("RUG: VOTES of its FIRST. BAD; STATE: it has one.")
    static void rugsIsBad() {
        StrangerVotes x = told("r6 1 2;r7 1 0;");
        for (int wrong : new int[] {-1, 2, 6, 32, 33, Integer.MIN_VALUE, Integer.MAX_VALUE}) {
            due.is("rugs(" + wrong + ")", x.rugs(wrong), BAD);
        }
        due.is("rugs(0) of no groups", new StrangerVotes().rugs(0), BAD);
    }

    // ---- undone

    private static void deed(StrangerVotes x, int which) {
        switch (which) {
            case 0: due.is("hour()", x.hour(), 1); break;
            case 1: due.is("holds(1)", x.holds(1), 2); break;
            case 2: due.is("canvasses(1, 0)", x.canvasses(1, 0), 2); break;
            case 3: due.is("fog(1)", x.fog(1), 1); break;
            case 4: due.is("rugs(0)", x.rugs(0), 4); break;
            default: due.is("hour()", x.hour(), 0); break;
        }
    }

    @Sentence({"UNDONE: the latest HOUR, HELD, CANVASSED, FOG, RUG", "all is as ahead of it."})
    static void eachDeedIsUndone() {
        for (int last = 0; last < 6; last++) {
            StrangerVotes x = told("c3 2 3;t0 5 1;t1 6 2;r4 0 1;");
            for (int before = 0; before < last; before++) deed(x, before);
            String ahead = look(x);
            deed(x, last);
            due.holds("deed " + last + " changes something", !look(x).equals(ahead));
            due.is("undo() of deed " + last, x.undo(), last);
            same("undone", look(x), ahead);
        }
    }

    @Sentence({"UNDONE: the latest HOUR, HELD, CANVASSED, FOG, RUG", "UNDONE: how many more may be. STATE: none."})
    static void allDeedsAreUndone() {
        StrangerVotes x = told("c3 2 3;t0 5 1;t1 6 2;r4 0 1;");
        String first = look(x);
        for (int which = 0; which < 6; which++) deed(x, which);
        for (int left = 5; left >= 0; left--) due.is("undo()", x.undo(), left);
        same("all undone", look(x), first);
        due.is("undo()", x.undo(), STATE);
        same("undo() of none", look(x), first);
    }

    @Sentence({"UNDONE: the latest HOUR, HELD, CANVASSED, FOG, RUG", "all is as ahead of it."})
    static void undoneAndDoneAgain() {
        StrangerVotes x = told("t0 5 1;t0 6 2;r4 0 1;");
        x.hour();
        String behind = look(x);
        x.undo();
        due.is("hour()", x.hour(), 2);
        same("done again", look(x), behind);
        x.rugs(0);
        x.undo();
        due.is("rugs(0)", x.rugs(0), 4);
        x.fog(1);
        x.undo();
        due.is("fog(1)", x.fog(1), 0);
        due.is("count(5)", x.count(5), 3);
    }

    @Sentence(KNOWN)
    static void tenAreKnown() {
        StrangerVotes x = told("t0 5 1;t1 6 2;t2 7 0;");
        for (int known = 1; known <= 10; known++) {
            x.hour();
            due.is("count(5)", x.count(5), known);
        }
        for (int left = 9; left >= 0; left--) {
            due.is("undo()", x.undo(), left);
            due.is("now(0)", x.now(0), left);
        }
        due.is("undo()", x.undo(), STATE);
        rows("votes", votes(x), 0, 0, 0);
    }

    @Sentence(KNOWN)
    static void olderOnesAreLost() {
        StrangerVotes x = told("t0 5 1;t1 6 2;t2 7 0;");
        hours(x, 11);
        due.is("count(5)", x.count(5), 10);
        for (int left = 9; left >= 0; left--) due.is("undo()", x.undo(), left);
        due.is("undo() of the eleventh", x.undo(), STATE);
        due.is("now(0)", x.now(0), 1);
        rows("votes", votes(x), 0, 5, 0);
        rows("train 0", train(x, 0), 0, 5, 1, 1);
    }

    @Sentence(KNOWN)
    static void muchOlderOnesAreLost() {
        StrangerVotes x = told("t0 5 1;t5 6 2;t20 7 0;");
        hours(x, 24);
        due.is("count(5)", x.count(5), 10);
        for (int left = 9; left >= 0; left--) {
            due.is("undo()", x.undo(), left);
            due.is("now(0)", x.now(0), 14 + left);
        }
        due.is("undo()", x.undo(), STATE);
        rows("votes", votes(x), 0, 5, 6);
    }

    @Sentence(KNOWN)
    static void tenMayBeUndoneAgainAndAgain() {
        StrangerVotes x = told("t0 5 1;");
        for (int i = 0; i < 12; i++) x.fog(1 - x.now(2));
        for (int left = 9; left >= 4; left--) due.is("undo()", x.undo(), left);
        hours(x, 8);
        due.is("count(5)", x.count(5), 10);
        for (int left = 9; left >= 2; left--) due.is("undo()", x.undo(), left);
        due.is("now(0)", x.now(0), 0);
        due.is("now(2)", x.now(2), 0);
        due.is("undo()", x.undo(), 1);
        due.is("now(2)", x.now(2), 1);
        due.is("undo()", x.undo(), 0);
        due.is("undo()", x.undo(), STATE);
    }

    @Sentence(KNOWN)
    static void whatIsRefusedIsNotKnown() {
        StrangerVotes x = told("c2 1 1;t0 5 1;t23 1 0;r4 0 1;");
        x.rugs(0);
        x.canvasses(0, 0);
        hours(x, 8);
        x.rugs(0);
        x.fog(0);
        x.holds(0);
        x.holds(1);
        x.canvasses(1, 1);
        x.canvasses(1, 0);
        x.fog(2);
        due.is("count(5)", x.count(5), 10);
        for (int left = 9; left >= 2; left--) due.is("undo() of an hour", x.undo(), left);
        due.is("undo() of canvassed", x.undo(), 1);
        due.is("train(0, 2)", x.train(0, 2), 1);
        due.is("undo() of the rug", x.undo(), 0);
        rows("votes", votes(x), 0, 0);
        due.is("undo()", x.undo(), STATE);
    }

    @Sentence({"UNDONE: the latest HOUR, HELD, CANVASSED, FOG, RUG", "UNDONE: how many more may be. STATE: none."})
    static void nothingElseIsUndone() {
        StrangerVotes x = told("c4 2 3;t0 5 1;");
        x.keep(0);
        x.type('t');
        x.hears(0, 1);
        x.mark(0, 0);
        x.forget();
        x.clear();
        due.is("undo()", x.undo(), STATE);
        due.is("count(5)", x.count(5), 0);
        x.hour();
        x.hears(2, 3);
        x.type('r');
        x.mark(0, 0);
        x.keep(1);
        due.is("undo()", x.undo(), 0);
        due.is("count(4)", x.count(4), 1);
        due.is("count(6)", x.count(6), 1);
        due.is("trace()", x.trace(), 2);
        due.is("back(1)", x.back(1), 1);
    }
}
