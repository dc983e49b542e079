/** Part 3, likings: what was heard of an unknown group, which likings that leaves, what to ask next; promises 19 to 22. */
final class LikingSentences extends Bench {
    private static final String HEARD =
        "HEARD (4 at most): an unknown group was, of two told CANDIDATES that were left, for the first.";
    private static final String HEARS =
        "HEARD: of two unlike CANDIDATES it was for the first: how much there is. BAD (alike ones, too); FULL.";
    private static final String LIKINGS = "LIKINGS: twos of FIRST and SECOND (unlike) by which all that was HEARD is so "
        + "(of two the FIRST, else the SECOND, if it is one of them, else the lower): how many; the first "
        + "(10 times FIRST and SECOND); NONE.";
    private static final String ASK = "ASK: the two CANDIDATES (10 times the lower and the other one) by which the greater "
        + "part of LIKINGS, that are for the one or the other, is least, of like ones the least;";

    private LikingSentences() {
    }

    // ---- heard

    @Sentence({HEARD, HEARS})
    static void fourAreHeardAtMost() {
        StrangerVotes x = new StrangerVotes();
        for (int many = 1; many <= 4; many++) {
            due.is("hears(0, 1)", x.hears(0, 1), many);
            due.is("count(4)", x.count(4), many);
        }
        due.is("hears(0, 1)", x.hears(0, 1), FULL);
        due.is("hears(1, 0)", x.hears(1, 0), FULL);
        due.is("count(4)", x.count(4), 4);
        // 01 02, and 20 by the second.
        due.is("likings(0)", x.likings(0), 3);
    }

    @Sentence("BAD (alike ones, too); FULL.")
    static void alikeOnesAreBad() {
        StrangerVotes x = told("c6 1 0;");
        for (int c = 0; c < 6; c++) due.is("hears(" + c + ", " + c + ")", x.hears(c, c), BAD);
        due.is("count(4)", x.count(4), 0);
    }

    @Sentence(HEARS)
    static void hearsIsBad() {
        StrangerVotes x = told("c4 1 0;");
        for (int wrong : new int[] {-1, 4, 6, 32, Integer.MIN_VALUE, Integer.MAX_VALUE}) {
            due.is("hears(" + wrong + ", 0)", x.hears(wrong, 0), BAD);
            due.is("hears(0, " + wrong + ")", x.hears(0, wrong), BAD);
        }
        due.is("count(4)", x.count(4), 0);
        due.is("hears(3, 0)", x.hears(3, 0), 1);
        due.is("hears(0, 3)", x.hears(0, 3), 2);
    }

    @Sentence("Nothing was HEARD: how much was.")
    static void forgetTellsHowMuchWas() {
        StrangerVotes x = new StrangerVotes();
        due.is("forget()", x.forget(), 0);
        x.hears(1, 0);
        x.hears(2, 0);
        due.is("likings(0)", x.likings(0), 2);
        due.is("forget()", x.forget(), 2);
        due.is("count(4)", x.count(4), 0);
        due.is("likings(0)", x.likings(0), 6);
        due.is("forget()", x.forget(), 0);
        for (int i = 0; i < 6; i++) x.hears(0, 1);
        due.is("forget()", x.forget(), 4);
        due.is("hears(0, 2)", x.hears(0, 2), 1);
        due.is("likings(0)", x.likings(0), 3);
    }

    // ---- likings

    @Sentence({LIKINGS, "LIKINGS: how many (what = 0), the first (1; NONE). BAD."})
    static void allTwosAreLikingsAtFirst() {
        for (int many = 2; many <= 6; many++) {
            StrangerVotes x = told("c" + many + " 1 0;");
            due.is("likings(0) of " + many, x.likings(0), many * (many - 1));
            due.is("likings(1) of " + many, x.likings(1), 1);
        }
    }

    @Sentence("(of two the FIRST, else the SECOND, if it is one of them, else the lower)")
    static void ofTwoTheFirst() {
        StrangerVotes x = told("c2 1 0;");
        x.hears(1, 0);
        due.is("likings(0)", x.likings(0), 1);
        due.is("likings(1)", x.likings(1), 10);
        StrangerVotes y = told("c4 1 0;");
        y.hears(3, 2);
        // 30 31 32, and 03 13 by the second; of the others none is for 3.
        due.is("likings(0)", y.likings(0), 5);
        due.is("likings(1)", y.likings(1), 3);
        y.hears(3, 0);
        y.hears(3, 1);
        due.is("likings(0): he is the first", y.likings(0), 3);
        due.is("likings(1): he is the first", y.likings(1), 30);
    }

    @Sentence("else the SECOND, if it is one of them, else the lower)")
    static void elseTheSecondElseTheLower() {
        StrangerVotes x = told("c4 2 0;");
        x.hears(2, 1);
        // 20 21 23, and 02 32 by the second.
        due.is("likings(0)", x.likings(0), 5);
        due.is("likings(1)", x.likings(1), 2);
        StrangerVotes lower = told("c4 2 0;");
        lower.hears(0, 1);
        // 01 02 03, 20 30 by the second, 23 32 by the lower.
        due.is("likings(0)", lower.likings(0), 7);
        due.is("likings(1)", lower.likings(1), 1);
        StrangerVotes higher = told("c4 2 0;");
        higher.hears(1, 2);
        // 10 12 13, 01 31 by the second, 03 30 by the lower.
        due.is("likings(0)", higher.likings(0), 7);
        due.is("likings(1)", higher.likings(1), 1);
    }

    @Sentence("by which all that was HEARD is so")
    static void allThatWasHeardIsSo() {
        StrangerVotes x = told("c4 2 0;");
        x.hears(2, 1);
        x.hears(3, 0);
        due.is("likings(0)", x.likings(0), 2);
        due.is("likings(1)", x.likings(1), 23);
        x.hears(3, 2);
        due.is("likings(0)", x.likings(0), 1);
        due.is("likings(1)", x.likings(1), 32);
        x.hears(3, 2);
        due.is("likings(0), heard again", x.likings(0), 1);
    }

    @Sentence({"how many; the first (10 times FIRST and SECOND); NONE.",
        "LIKINGS: how many (what = 0), the first (1; NONE). BAD."})
    static void noLikingsAreLeft() {
        StrangerVotes x = told("c4 2 0;");
        x.hears(1, 3);
        x.hears(3, 1);
        due.is("likings(0)", x.likings(0), 0);
        due.is("likings(1)", x.likings(1), NONE);
        x.forget();
        due.is("likings(1)", x.likings(1), 1);
    }

    @Sentence("LIKINGS: how many (what = 0), the first (1; NONE). BAD.")
    static void likingsIsBad() {
        StrangerVotes x = new StrangerVotes();
        for (int wrong : new int[] {-1, 2, 3, Integer.MIN_VALUE, Integer.MAX_VALUE}) {
            due.is("likings(" + wrong + ")", x.likings(wrong), BAD);
        }
    }

    @Sentence("how many; the first (10 times FIRST and SECOND); NONE.")
    static void theLastLikingOfSix() {
        StrangerVotes x = told("c6 1 0;");
        x.hears(5, 0);
        x.hears(5, 4);
        x.hears(4, 0);
        x.hears(4, 1);
        due.is("likings(0)", x.likings(0), 1);
        due.is("likings(1)", x.likings(1), 54);
    }

    // ---- ask

    @Sentence({ASK, "ASK; NONE."})
    static void ofLikeQuestionsTheLeast() {
        due.is("ask() of two", told("c2 1 0;").ask(), 1);
        due.is("ask() of three", new StrangerVotes().ask(), 1);
        // Of any two of four seven likings are for the lower, five for the other one.
        due.is("ask() of four", told("c4 1 0;").ask(), 1);
        due.is("ask() of six", told("c6 1 0;").ask(), 1);
    }

    @Sentence(ASK)
    static void theGreaterPartIsLeast() {
        StrangerVotes x = told("c4 2 0;");
        x.hears(2, 1);
        // Left are 02 20 21 23 32: by 03 and by 13 three and two, by all others four and one or five.
        due.is("ask()", x.ask(), 3);
        x.hears(3, 0);
        // Left are 23 32.
        due.is("ask()", x.ask(), 23);
        StrangerVotes y = told("c4 2 0;");
        y.hears(0, 1);
        y.hears(2, 3);
        // Left are 01 (of 2 and 3 by the lower) 02 20 23.
        due.is("likings(0)", y.likings(0), 4);
        due.is("ask(): by 02 two and two", y.ask(), 2);
        StrangerVotes z = told("c6 1 0;");
        z.hears(0, 1);
        // Of 21 by 12 to 15 thirteen are for 1, by others fourteen or more for one.
        due.is("likings(0)", z.likings(0), 21);
        due.is("ask()", z.ask(), 12);
    }

    @Sentence("the two CANDIDATES (10 times the lower and the other one)")
    static void theLowerComesFirst() {
        StrangerVotes x = told("c6 1 0;");
        x.hears(4, 3);
        x.hears(5, 2);
        // Left are 45 54, which 4 and 5 alone part.
        due.is("likings(0)", x.likings(0), 2);
        due.is("ask()", x.ask(), 45);
        StrangerVotes y = told("c6 1 0;");
        y.hears(5, 0);
        y.hears(5, 1);
        y.hears(5, 2);
        // Left are 50 .. 54 35 45: by 03 two (53 35) of seven are for 3, by 01 and 02 but one for the other one.
        due.is("likings(0)", y.likings(0), 7);
        due.is("ask()", y.ask(), 3);
    }

    @Sentence({"NONE (none parts them).", "ASK; NONE."})
    static void noQuestionPartsThem() {
        StrangerVotes x = told("c4 2 0;");
        x.hears(2, 1);
        x.hears(3, 0);
        x.hears(2, 3);
        due.is("likings(0)", x.likings(0), 1);
        due.is("ask(): one is left", x.ask(), NONE);
        x.hears(3, 2);
        due.is("likings(0)", x.likings(0), 0);
        due.is("ask(): none is left", x.ask(), NONE);
        x.forget();
        due.is("ask()", x.ask(), 1);
    }

    @Sentence({HEARD, "IMAGES 0, 1 keep NOW"})
    static void deedsDoNotChangeWhatWasHeard() {
        StrangerVotes x = told("t0 5 1;");
        x.keep(0);
        x.hears(1, 0);
        x.hour();
        x.hears(2, 1);
        x.undo();
        due.is("count(4)", x.count(4), 2);
        x.back(0);
        due.is("count(4)", x.count(4), 2);
        // Left is 21 alone.
        due.is("likings(0)", x.likings(0), 1);
    }
}
