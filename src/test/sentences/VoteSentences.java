/** Part 3 up to laws, and odds: who is left, who wins, plans, power, laws, odds; promises 7 and 14 to 18. */
final class VoteSentences extends Bench {
    private static final String WHO =
        "WHO is left by VOTES: LEFT CANDIDATES with most of them, of like ones the lower.";
    private static final String FOR_WHOM = "WINNER by these: each group of RESIDENTS that has no RUG is for its FIRST, "
        + "if that one is left, else its SECOND, if that one is, else the lowest that is left; MANY each;";
    private static final String MOST = "the one of those left whom most are for, of like ones the lowest.";
    private static final String END = "END: VOTES, and CROWDS of all TRAINS that have not STOPPED and are of the HOUR "
        + "or later, for whom they LIKE (no FOG, nothing else done).";
    private static final String PLAN = "PLAN for one by another (or himself): the fewest such TRAINS (bits, of several "
        + "sets the least; those that LIKE the other one already are not needed) that, CANVASSED for the other one, "
        + "make the one WINNER in the END;";
    private static final String PLAN_NONE = "NONE (BUNS are too few, too).";
    private static final String POWER = "POWER of a TRAIN that has not STOPPED, of the HOUR or later: in how many of all "
        + "sets of the other such TRAINS it is so that WINNER, if just these and it STOP, is another one than if just "
        + "these do.";
    private static final String POWER_REFUSED =
        "POWER. BAD; STATE: it has STOPPED, or is of an HOUR that is gone by.";
    private static final String LAWS =
        "LAWS for one: numbers (bits 1 .. CANDIDATES) to be LEFT by which he is WINNER in the END.";
    private static final String ODDS = "ODDS by x (0 .. 10) for one: each such TRAIN is in FOG by x of 10, for itself, "
        + "and does not STOP: that he is WINNER then: a fraction.";
    private static final String ODDS_REFUSED =
        "ODDS: upper (what = 0), lower number (1), in least terms. BAD.";
    private static final String NOW = "0 the HOUR, 1 BUNS, 2 FOG (1, 0), 3 WHO is left by VOTES now (bits), "
        + "4 in the END (bits), 5 WINNER by VOTES now, 6 in the END. BAD.";

    private VoteSentences() {
    }

    @Sentence("(Nothing is changed.)")
    static void nothingIsChanged() {
        StrangerVotes x = told("c4 2 3;t0 5 1;t1 6 2;t0 4 3;r4 0 1;r7 3 2;");
        x.hour();
        x.canvasses(1, 3);
        x.hears(2, 1);
        x.fog(1);
        String before = look(x);
        for (int c = 0; c < 4; c++) {
            x.votes(c, 0);
            x.votes(c, 1);
            x.plan(c, 3 - c);
            x.laws(c);
            x.odds(3, c, 0);
            x.odds(3, c, 1);
        }
        for (int t = 0; t < 3; t++) x.power(t);
        x.likings(0);
        x.likings(1);
        x.ask();
        same("asked", look(x), before);
        due.is("undo()", x.undo(), 2);
        due.is("now(2)", x.now(2), 0);
        due.is("undo()", x.undo(), 1);
        due.is("train(1, 2)", x.train(1, 2), 2);
    }

    // ---- who is left

    @Sentence(WHO)
    static void thoseWithMostVotesAreLeft() {
        StrangerVotes x = told("c4 2 0;t0 3 1;t0 9 2;t0 4 3;t0 1 0;");
        x.hour();
        due.is("now(3)", x.now(3), 1 << 2 | 1 << 3);
        due.is("one is left", told("c4 1 0;t5 3 2;t5 4 3;").now(4), 1 << 3);
        due.is("three are left", told("c4 3 0;t5 3 2;t5 4 3;t5 1 1;").now(4), 14);
        due.is("all are left", told("c6 6 0;t5 3 2;").now(4), 63);
        due.is("five of six", told("c6 5 0;t5 1 0;t5 1 1;t5 1 5;t5 1 2;t5 1 3;").now(4), 63 - 16);
    }

    @Sentence(WHO)
    static void ofLikeOnesTheLowerIsLeft() {
        due.is("of three like ones two", told("c4 2 0;t5 3 2;t5 3 1;t5 3 3;").now(4), 6);
        due.is("of two like ones one", told("c4 2 0;t5 9 3;t5 3 2;t5 3 1;").now(4), 10);
        due.is("without votes", told("c6 4 0;t5 3 5;").now(4), 39);
        due.is("the last of all", told("c2 1 0;t5 3 1;t5 3 0;").now(4), 1);
        for (int left = 1; left <= 6; left++) {
            due.is("nobody has votes", told("c6 " + left + " 0;").now(3), (1 << left) - 1);
        }
    }

    @Sentence("LEFT: how many are left (1 .. as many as CANDIDATES; 2 at first).")
    static void leftAreAsManyAsTold() {
        for (int left = 1; left <= 5; left++) {
            StrangerVotes x = told("c5 " + left + " 0;t0 5 4;t0 4 1;t0 3 2;t0 2 0;t0 1 3;");
            int[] bits = {0, 16, 18, 22, 23, 31};
            due.is("now(4), " + left + " left", x.now(4), bits[left]);
            x.hour();
            due.is("now(3), " + left + " left", x.now(3), bits[left]);
        }
    }

    // ---- who wins

    @Sentence(FOR_WHOM)
    static void aGroupIsForItsFirst() {
        due.is("the first is left", told("c4 2 0;r5 1 0;r4 0 1;").now(5), 1);
        due.is("both are left", told("c4 4 0;r5 3 0;r4 0 3;").now(5), 3);
    }

    @Sentence(FOR_WHOM)
    static void elseForItsSecond() {
        due.is("the second is left", told("c4 2 0;r5 3 1;r4 0 1;").now(5), 1);
        due.is("the second is left in the end", told("c4 2 0;t0 9 3;r5 1 3;r4 0 1;").now(6), 3);
    }

    @Sentence(FOR_WHOM)
    static void elseForTheLowest() {
        // 1 and 2 are left: five are for 1, the lowest, who liked neither.
        due.is("neither is left", told("c4 2 0;t0 9 2;t0 8 1;r5 3 0;r4 2 1;").now(6), 1);
        due.is("neither is left: enough for him", told("c4 2 0;t0 9 2;t0 8 1;r3 3 0;r4 2 1;").now(6), 2);
        due.is("one is left", told("c4 1 0;t0 9 3;r5 1 0;").now(6), 3);
        // The lowest left is 2, not the one with most votes.
        due.is("the lowest has fewer votes", told("c4 2 0;t0 9 3;t0 8 2;r5 1 0;r4 3 0;").now(6), 2);
    }

    @Sentence("MANY each;")
    static void asManyAsTheGroupHas() {
        due.is("groups are summed", told("c4 2 0;r2 1 0;r2 1 0;r3 0 1;").now(5), 1);
        due.is("more groups, fewer residents", told("c4 2 0;r1 0 1;r1 0 1;r3 1 0;").now(5), 1);
        due.is("thirties", told("c2 2 0;r30 1 0;r30 1 0;r30 1 0;r30 0 1;r30 0 1;r29 0 1;").now(5), 1);
    }

    @Sentence(MOST)
    static void ofLikeOnesTheLowestWins() {
        due.is("two like ones", told("c4 4 0;r3 2 1;r3 1 0;").now(5), 1);
        due.is("three like ones", told("c4 4 0;r3 3 1;r3 2 0;r3 1 0;r2 0 1;").now(5), 1);
        due.is("one more", told("c4 4 0;r4 3 1;r3 2 0;r3 1 0;").now(5), 3);
    }

    @Sentence(MOST)
    static void nobodyVotes() {
        due.is("the lowest that is left, not who has most votes", told("c4 2 0;t0 1 1;t0 2 3;").now(6), 1);
        due.is("one is left", told("c4 1 0;t0 1 1;t0 2 3;").now(6), 3);
        StrangerVotes x = told("c4 1 0;r5 2 0;");
        x.rugs(0);
        due.is("who is left by a rug", x.now(5), 2);
    }

    @Sentence({MOST, "it has a RUG (votes no more as RESIDENTS)."})
    static void onlyThoseLeftWin() {
        StrangerVotes x = told("c3 2 0;t0 9 1;t0 8 2;r30 0 1;r1 2 0;");
        due.is("now(5)", x.now(5), 0);
        due.is("now(6)", x.now(6), 1);
        x.rugs(0);
        due.is("now(6) with a rug", x.now(6), 0);
        due.is("now(4) with a rug", x.now(4), 3);
    }

    // ---- the end

    @Sentence({END, "VOTES of one (end = 0: now, 1: in the END). BAD."})
    static void votesInTheEndOfAllTrains() {
        StrangerVotes x = told("t0 5 1;t0 6 2;t1 7 1;t23 8 0;r3 2 1;");
        rows("votes", votes(x), 0, 0, 0);
        rows("votes in the end", votesInTheEnd(x), 8, 12, 6);
        x.hour();
        x.rugs(0);
        rows("votes", votes(x), 0, 5, 9);
        rows("votes in the end", votesInTheEnd(x), 8, 12, 9);
        x.canvasses(2, 0);
        rows("votes in the end", votesInTheEnd(x), 15, 5, 9);
        hours(x, 23);
        rows("votes", votes(x), 15, 5, 9);
        rows("votes in the end", votesInTheEnd(x), 15, 5, 9);
    }

    @Sentence(END)
    static void trainsGoneByAreNotInTheEnd() {
        StrangerVotes x = told("t0 5 1;t1 7 1;t2 8 0;");
        x.fog(1);
        rows("votes in the end, no fog", votesInTheEnd(x), 8, 12, 0);
        x.hour();
        rows("votes in the end, one gone by", votesInTheEnd(x), 8, 7, 0);
        x.fog(0);
        rows("votes in the end, one gone by", votesInTheEnd(x), 8, 7, 0);
        due.is("now(6)", x.now(6), 0);
        x.fog(1);
        hours(x, 23);
        rows("votes in the end", votesInTheEnd(x), 0, 0, 0);
    }

    @Sentence("VOTES of one (end = 0: now, 1: in the END). BAD.")
    static void votesIsBad() {
        StrangerVotes x = told("c4 2 0;t0 5 3;");
        due.is("votes(3, 1)", x.votes(3, 1), 5);
        for (int wrong : new int[] {-1, 4, 6, 32, Integer.MIN_VALUE, Integer.MAX_VALUE}) {
            due.is("votes(" + wrong + ", 0)", x.votes(wrong, 0), BAD);
            due.is("votes(" + wrong + ", 1)", x.votes(wrong, 1), BAD);
        }
        for (int wrong : new int[] {-1, 2, 3, Integer.MIN_VALUE, Integer.MAX_VALUE}) {
            due.is("votes(0, " + wrong + ")", x.votes(0, wrong), BAD);
        }
    }

    @Sentence({NOW, "WINNER in the END."})
    static void nowTellsSevenThings() {
        StrangerVotes x = told("c4 2 5;t0 5 3;t1 6 2;t1 7 1;r4 0 3;r5 1 2;");
        rows("now", now(x), 0, 5, 0, 3, 6, 1, 1);
        x.canvasses(1, 3);
        x.hour();
        x.fog(1);
        rows("now", now(x), 1, 4, 1, 9, 10, 0, 1);
    }

    @Sentence(NOW)
    static void nowIsBad() {
        StrangerVotes x = told("c4 2 5;t0 5 3;");
        for (int wrong : new int[] {-1, 7, 8, Integer.MIN_VALUE, Integer.MAX_VALUE}) {
            due.is("now(" + wrong + ")", x.now(wrong), BAD);
        }
    }

    // ---- plans

    @Sentence(PLAN)
    static void aPlanForTheWinnerNeedsNoTrain() {
        StrangerVotes x = told("c3 2 0;t0 5 1;t0 5 1;t0 9 0;r9 2 1;r1 0 2;");
        due.is("now(6)", x.now(6), 1);
        for (int by = 0; by < 3; by++) due.is("plan(1, " + by + ")", x.plan(1, by), 0);
        due.is("plan(0, 0) without trains", new StrangerVotes().plan(0, 0), 0);
        due.is("plan(0, 2) without trains", new StrangerVotes().plan(0, 2), 0);
    }

    @Sentence(PLAN)
    static void aPlanByHimself() {
        StrangerVotes x = told("c2 1 3;t0 9 1;t1 5 1;t2 1 0;r1 0 1;");
        due.is("now(6)", x.now(6), 1);
        due.is("plan(0, 0)", x.plan(0, 0), 1);
        due.is("plan(0, 1)", x.plan(0, 1), NONE);
        due.is("plan(1, 0)", x.plan(1, 0), 0);
    }

    @Sentence(PLAN)
    static void aPlanByAnother() {
        // Left are 0 and 1, and 1 wins; with 3 instead of 1 left the larger group is for 0.
        StrangerVotes x = told("c4 2 3;t0 9 0;t1 6 1;t2 5 1;t3 1 3;r9 1 0;r4 0 1;");
        due.is("now(4)", x.now(4), 3);
        due.is("now(6)", x.now(6), 1);
        due.is("plan(0, 3)", x.plan(0, 3), 2);
        due.is("plan(0, 2)", x.plan(0, 2), 2);
        due.is("plan(3, 2)", x.plan(3, 2), NONE);
        due.is("plan(3, 3)", x.plan(3, 3), NONE);
    }

    @Sentence(PLAN)
    static void theFewestTrainsAreAPlan() {
        due.is("one greater train, not two lower ones",
            told("c2 1 3;t0 1 1;t0 1 1;t0 4 1;t0 2 0;r1 0 1;").plan(0, 0), 4);
        due.is("two, not three",
            told("c2 1 20;t0 1 1;t0 2 1;t0 2 1;t0 5 1;t0 6 1;r1 0 1;").plan(0, 0), 16 + 2);
        due.is("all eight", told("c2 1 8;t0 1 1;t0 1 1;t0 1 1;t0 1 1;t0 1 1;t0 1 1;t0 1 1;t0 1 1;r1 0 1;").plan(0, 0), 15);
        due.is("the eighth alone", told("c2 1 8;t0 1 1;t0 1 1;t0 1 1;t0 1 1;t0 1 1;t0 1 1;t0 1 1;t0 9 1;r1 0 1;").plan(0, 0),
            128);
    }

    @Sentence(PLAN)
    static void ofSeveralSetsTheLeastIsThePlan() {
        due.is("three like trains", told("c2 1 3;t0 4 1;t0 4 1;t0 4 1;t0 4 1;t0 4 1;t0 4 1;r1 0 1;").plan(0, 0), 7);
        due.is("either of two", told("c3 2 2;t0 5 1;t0 7 1;t1 2 1;t2 3 0;r9 2 1;").plan(2, 2), 1);
        due.is("either of the later two", told("c2 1 1;t0 1 1;t0 5 1;t0 5 1;t0 2 0;").plan(0, 0), 2);
    }

    @Sentence(PLAN)
    static void trainsThatLikeHimAlreadyAreNotNeeded() {
        StrangerVotes x = told("c2 1 3;t0 4 0;t0 4 1;t0 4 1;t0 4 1;t0 4 0;t0 4 1;r1 0 1;");
        due.is("plan(0, 0)", x.plan(0, 0), 2);
        x.canvasses(2, 0);
        due.is("plan(0, 0)", x.plan(0, 0), 0);
        StrangerVotes by = told("c3 2 3;t0 9 1;t0 5 2;t0 4 0;r9 2 0;r1 0 1;");
        due.is("plan(2, 2)", by.plan(2, 2), 0);
        due.is("plan(0, 2)", by.plan(0, 2), NONE);
    }

    @Sentence(PLAN)
    static void onlySuchTrainsArePlanned() {
        StrangerVotes x = told("c2 1 3;t0 4 1;t1 5 1;t2 3 1;t3 3 1;r1 0 1;");
        due.is("plan(0, 0)", x.plan(0, 0), 3);
        x.fog(1);
        due.is("plan(0, 0), there is fog", x.plan(0, 0), 3);
        x.hour();
        due.is("plan(0, 0): one is of an hour gone by", x.plan(0, 0), 6);
        x.fog(0);
        x.hour();
        due.is("plan(0, 0): and one has stopped", x.plan(0, 0), 12);
        hours(x, 2);
        due.is("plan(0, 0): no train is left", x.plan(0, 0), NONE);
        due.is("plan(1, 0): no train is left", x.plan(1, 0), 0);
    }

    @Sentence({PLAN_NONE, "PLAN, as bits; NONE. BAD."})
    static void bunsAreTooFew() {
        String trains = "t0 4 1;t0 4 1;t0 4 1;t0 4 1;t0 4 1;t0 4 1;r1 0 1;";
        due.is("plan(0, 0) with 2 buns", told("c2 1 2;" + trains).plan(0, 0), NONE);
        due.is("plan(0, 0) without buns", told("c2 1 0;" + trains).plan(0, 0), NONE);
        due.is("plan(1, 0) without buns", told("c2 1 0;" + trains).plan(1, 0), 0);
        StrangerVotes x = told("c2 1 3;" + trains);
        due.is("plan(0, 0) with 3 buns", x.plan(0, 0), 7);
        x.canvasses(5, 0);
        due.is("plan(0, 0), 2 buns are left", x.plan(0, 0), 3);
        x.canvasses(5, 1);
        due.is("plan(0, 0), 1 bun is left", x.plan(0, 0), NONE);
    }

    @Sentence("PLAN, as bits; NONE. BAD.")
    static void planIsBad() {
        StrangerVotes x = told("c4 2 3;t0 5 1;");
        for (int wrong : new int[] {-1, 4, 6, 32, Integer.MIN_VALUE, Integer.MAX_VALUE}) {
            due.is("plan(" + wrong + ", 0)", x.plan(wrong, 0), BAD);
            due.is("plan(0, " + wrong + ")", x.plan(0, wrong), BAD);
        }
        due.is("plan(3, 3)", x.plan(3, 3), NONE);
    }

    // ---- power

    @Sentence(POWER)
    static void powerOverTheOthers() {
        StrangerVotes x = told("c2 1 0;t0 3 1;t0 3 0;r5 1 0;");
        due.is("power(0)", x.power(0), 1);
        due.is("power(1)", x.power(1), 1);
        // By either of the two 1 wins, whether the third stops or not.
        StrangerVotes y = told("c2 1 0;t0 3 1;t1 2 1;t2 1 0;r1 0 1;");
        due.is("power(0)", y.power(0), 2);
        due.is("power(1)", y.power(1), 2);
        due.is("power(2)", y.power(2), 0);
        due.is("the only train", told("c2 1 0;t5 1 1;").power(0), 1);
        due.is("the only train", told("c2 1 0;t5 1 0;").power(0), 0);
    }

    @Sentence(POWER)
    static void powerOfOneOfEight() {
        StrangerVotes x = told("c2 1 0;t0 1 0;t1 1 0;t2 1 0;t3 1 0;t4 1 0;t5 1 0;t6 1 0;t7 30 1;");
        due.is("power(7)", x.power(7), 128);
        for (int t = 0; t < 7; t++) due.is("power(" + t + ")", x.power(t), 0);
        StrangerVotes y = told("c2 1 0;t0 1 1;t1 1 1;t2 1 1;t3 1 1;t4 1 0;t5 1 0;t6 1 0;t7 1 0;");
        // It turns the vote if as many of the other three stop as of the four that like 0.
        due.is("power(0)", y.power(0), 1 + 3 * 4 + 3 * 6 + 4);
        // It turns the vote if of those that like 1 one more stops than of the other three.
        due.is("power(4)", y.power(4), 4 + 6 * 3 + 4 * 3 + 1);
    }

    @Sentence(POWER)
    static void powerWithVotesAndGroups() {
        StrangerVotes x = told("c2 1 0;t0 3 1;t5 3 0;t5 1 1;r1 0 1;");
        x.hour();
        due.is("power(1)", x.power(1), 1);
        due.is("power(2)", x.power(2), 1);
        x.fog(1);
        due.is("power(1) in fog", x.power(1), 1);
        StrangerVotes y = told("c3 2 0;t1 3 2;r5 2 1;r4 1 2;");
        due.is("power(0)", y.power(0), 1);
        y.rugs(0);
        // Left are 0 and 2 whether it stops or not.
        due.is("power(0) with a rug", y.power(0), 0);
    }

    @Sentence({POWER, POWER_REFUSED})
    static void onlySuchTrainsHavePower() {
        StrangerVotes x = told("c2 1 0;t0 3 1;t1 2 1;t2 1 0;t9 4 1;r1 0 1;");
        due.is("power(3)", x.power(3), 2);
        x.hour();
        due.is("power(0): it has stopped", x.power(0), STATE);
        due.is("power(3): 1 has votes enough", x.power(3), 0);
        x.undo();
        x.fog(1);
        x.hour();
        due.is("power(0): of an hour gone by", x.power(0), STATE);
        due.is("power(1): of the hour", x.power(1), 2);
        due.is("power(3): of the other two", x.power(3), 2);
        x.hour();
        due.is("power(1): of an hour gone by", x.power(1), STATE);
        due.is("power(3): of one other", x.power(3), 2);
        hours(x, 22);
        due.is("power(3) at 24", x.power(3), STATE);
    }

    @Sentence(POWER_REFUSED)
    static void powerIsBad() {
        StrangerVotes x = told("t0 5 1;t1 6 2;");
        for (int wrong : new int[] {-1, 2, 8, 31, 32, 33, Integer.MIN_VALUE, Integer.MAX_VALUE}) {
            due.is("power(" + wrong + ")", x.power(wrong), BAD);
        }
        due.is("power(0) without trains", new StrangerVotes().power(0), BAD);
    }

    // ---- laws

    @Sentence({LAWS, "LAWS, as bits. BAD."})
    static void lawsByWhichHeWins() {
        StrangerVotes x = told("c4 2 0;t0 9 3;t0 8 2;t1 7 1;r9 0 2;r8 1 3;");
        due.is("laws(0)", x.laws(0), 1 << 4);
        due.is("laws(1)", x.laws(1), 0);
        due.is("laws(2)", x.laws(2), 1 << 2 | 1 << 3);
        due.is("laws(3)", x.laws(3), 1 << 1);
        x.hour();
        due.is("laws(2) of the end", x.laws(2), 1 << 2 | 1 << 3);
        x.fog(1);
        due.is("laws(2): no fog", x.laws(2), 1 << 2 | 1 << 3);
    }

    @Sentence("LAWS for one: numbers (bits 1 .. CANDIDATES)")
    static void lawsAre1ToAsManyAsCandidates() {
        for (int many = 2; many <= 6; many++) {
            due.is("laws(0) of " + many, told("c" + many + " 1 0;").laws(0), (1 << many + 1) - 2);
            due.is("laws(1) of " + many, told("c" + many + " 1 0;").laws(1), 0);
            due.is("all but the first", told("c" + many + " 1 0;r1 1 0;").laws(1), (1 << many + 1) - 4);
            due.is("the last alone", told("c" + many + " 1 0;r1 " + (many - 1) + " 0;").laws(many - 1), 1 << many);
        }
        due.is("count(1), nothing is changed", told("c5 3 0;").count(1), 3);
    }

    @Sentence(LAWS)
    static void lawsLookAtRugsAndTrainsGoneBy() {
        StrangerVotes x = told("c3 2 0;t0 9 2;t3 1 1;r5 2 0;r4 1 0;");
        due.is("laws(2)", x.laws(2), 1 << 1 | 1 << 2 | 1 << 3);
        x.fog(1);
        x.hour();
        due.is("laws(1): 2 is left by three alone", x.laws(1), 1 << 1);
        due.is("laws(0)", x.laws(0), 1 << 2);
        due.is("laws(2)", x.laws(2), 1 << 3);
        x.rugs(0);
        due.is("laws(1) with a rug", x.laws(1), 1 << 2 | 1 << 3);
        due.is("laws(2) with a rug", x.laws(2), 1 << 1);
    }

    @Sentence("LAWS, as bits. BAD.")
    static void lawsIsBad() {
        StrangerVotes x = told("c4 2 0;");
        for (int wrong : new int[] {-1, 4, 6, 32, Integer.MIN_VALUE, Integer.MAX_VALUE}) {
            due.is("laws(" + wrong + ")", x.laws(wrong), BAD);
        }
    }

    // ---- odds

    @Sentence({ODDS, ODDS_REFUSED})
    static void oddsOfTwoTrains() {
        StrangerVotes x = told("c2 1 0;t0 3 1;t0 3 0;r5 1 0;");
        // 1 wins if the first stops and the second does not.
        rows("odds 4, 1", odds(x, 4, 1), 6, 25);
        rows("odds 4, 0", odds(x, 4, 0), 19, 25);
        rows("odds 5, 1", odds(x, 5, 1), 1, 4);
        rows("odds 1, 1", odds(x, 1, 1), 9, 100);
        rows("odds 9, 1", odds(x, 9, 1), 9, 100);
        rows("odds 3, 1", odds(told("c2 1 0;t0 3 1;"), 3, 1), 7, 10);
        rows("odds 3, 0", odds(told("c2 1 0;t0 3 1;"), 3, 0), 3, 10);
    }

    @Sentence("ODDS by x (0 .. 10) for one:")
    static void oddsBy0AndBy10() {
        StrangerVotes x = told("c2 1 0;t0 3 1;t1 2 1;");
        rows("odds 0, 1: as in the end", odds(x, 0, 1), 1, 1);
        rows("odds 0, 0: as in the end", odds(x, 0, 0), 0, 1);
        rows("odds 10, 0: as now", odds(x, 10, 0), 1, 1);
        rows("odds 10, 1: as now", odds(x, 10, 1), 0, 1);
        due.is("odds(11, 0, 0)", x.odds(11, 0, 0), BAD);
        due.is("odds(-1, 0, 0)", x.odds(-1, 0, 0), BAD);
    }

    @Sentence(ODDS_REFUSED)
    static void oddsInLeastTerms() {
        StrangerVotes most = told("c2 1 0;t0 1 1;t0 1 1;t0 1 1;t0 1 1;t0 1 1;t0 1 1;t0 1 1;t0 1 1;");
        rows("odds 3, 0", odds(most, 3, 0), 6561, 100000000);
        rows("odds 3, 1", odds(most, 3, 1), 99993439, 100000000);
        rows("odds 9, 0", odds(most, 9, 0), 43046721, 100000000);
        rows("odds 5, 0", odds(most, 5, 0), 1, 256);
        rows("odds 5, 1", odds(most, 5, 1), 255, 256);
        rows("odds 2, 0", odds(most, 2, 0), 1, 390625);
        rows("odds 4, 0", odds(most, 4, 0), 256, 390625);
        rows("odds 10, 0", odds(most, 10, 0), 1, 1);
        rows("odds 0, 0", odds(most, 0, 0), 0, 1);
    }

    @Sentence(ODDS)
    static void oddsOfSuchTrainsAlone() {
        StrangerVotes x = told("c2 1 0;t0 1 1;t1 2 0;t2 2 1;");
        x.hour();
        // 1 loses if the second train stops and the third does not: 8 of 10 times 2 of 10.
        rows("odds 2, 1", odds(x, 2, 1), 21, 25);
        x.fog(1);
        rows("odds 2, 1, there is fog", odds(x, 2, 1), 21, 25);
        x.hour();
        rows("odds 2, 1: one is gone by", odds(x, 2, 1), 1, 1);
        rows("odds 2, 0: one is gone by", odds(x, 2, 0), 0, 1);
        rows("odds 7, 0 without trains", odds(new StrangerVotes(), 7, 0), 1, 1);
        rows("odds 7, 2 without trains", odds(new StrangerVotes(), 7, 2), 0, 1);
    }

    @Sentence(ODDS)
    static void oddsOfAllSumUp() {
        StrangerVotes x = told("c3 2 0;t0 3 1;t0 4 2;t1 2 0;t2 5 1;r5 1 0;r4 2 1;r3 0 2;");
        for (int tenths = 0; tenths <= 10; tenths++) {
            long sum = 0;
            for (int c = 0; c < 3; c++) {
                int[] fraction = odds(x, tenths, c);
                due.holds("odds " + tenths + ", " + c + " is a fraction of 10000", fraction[1] > 0 && 10000 % fraction[1] == 0);
                sum += fraction[1] > 0 ? (long) fraction[0] * (10000 / fraction[1]) : 0;
            }
            due.is("the sum of odds " + tenths, sum, 10000);
        }
    }

    @Sentence(ODDS_REFUSED)
    static void oddsIsBad() {
        StrangerVotes x = told("c4 2 0;t0 5 3;");
        for (int wrong : new int[] {-1, 11, 12, Integer.MIN_VALUE, Integer.MAX_VALUE}) {
            due.is("odds(" + wrong + ", 0, 0)", x.odds(wrong, 0, 0), BAD);
        }
        for (int wrong : new int[] {-1, 4, 6, 32, Integer.MIN_VALUE, Integer.MAX_VALUE}) {
            due.is("odds(5, " + wrong + ", 0)", x.odds(5, wrong, 0), BAD);
        }
        for (int wrong : new int[] {-1, 2, 3, Integer.MIN_VALUE, Integer.MAX_VALUE}) {
            due.is("odds(5, 0, " + wrong + ")", x.odds(5, 0, wrong), BAD);
        }
    }
}
