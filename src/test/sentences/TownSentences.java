/** Part 1: candidates, trains, residents, and the text that tells them. */
final class TownSentences extends Bench {
    private static final String EIGHT_TRAINS = "t0 1 0;t0 1 0;t0 1 0;t0 1 0;t0 1 0;t0 1 0;t0 1 0;t0 1 0;";
    private static final String SIX_GROUPS = "r1 0 1;r1 0 1;r1 0 1;r1 0 1;r1 0 1;r1 0 1;";

    private TownSentences() {
    }

    // ---- candidates, left, buns

    @Sentence("CANDIDATES 0 .. as many as are told less 1 (2 ..")
    static void candidatesAreTwoAtLeast() {
        StrangerVotes x = told("c2 1 0;");
        due.is("count(0)", x.count(0), 2);
        due.is("votes(1, 0)", x.votes(1, 0), 0);
        due.is("votes(2, 0)", x.votes(2, 0), BAD);
        isFaulty("c1 1 0;", 1);
        isFaulty("c0 1 0;", 1);
    }

    @Sentence({"CANDIDATES 0 .. as many as are told less 1 (2 ..", "6; 3 at first)."})
    static void candidatesAreSixAtMost() {
        StrangerVotes x = told("c6 1 0;");
        due.is("count(0)", x.count(0), 6);
        due.is("votes(5, 0)", x.votes(5, 0), 0);
        due.is("votes(6, 0)", x.votes(6, 0), BAD);
        isFaulty("c7 1 0;", 1);
        isFaulty("c10 1 0;", 1);
        isFaulty("c99 1 0;", 1);
    }

    @Sentence("6; 3 at first).")
    static void candidatesAreThreeAtFirst() {
        StrangerVotes x = new StrangerVotes();
        due.is("count(0)", x.count(0), 3);
        due.is("votes(2, 0)", x.votes(2, 0), 0);
        due.is("votes(3, 0)", x.votes(3, 0), BAD);
    }

    @Sentence("LEFT: how many are left (1 .. as many as CANDIDATES; 2 at first).")
    static void leftIsOneAtLeast() {
        StrangerVotes x = told("c3 1 0;");
        due.is("count(1)", x.count(1), 1);
        due.is("now(3)", x.now(3), 1);
        isFaulty("c3 0 0;", 3);
    }

    @Sentence("LEFT: how many are left (1 .. as many as CANDIDATES; 2 at first).")
    static void leftIsAllAtMost() {
        for (int many = 2; many <= 6; many++) {
            StrangerVotes x = told("c" + many + " " + many + " 0;");
            due.is("count(1)", x.count(1), many);
            due.is("now(3)", x.now(3), (1 << many) - 1);
            isFaulty("c" + many + " " + (many + 1) + " 0;", 3);
        }
    }

    @Sentence("LEFT: how many are left (1 .. as many as CANDIDATES; 2 at first).")
    static void leftIsTwoAtFirst() {
        due.is("count(1)", new StrangerVotes().count(1), 2);
        due.is("now(3)", new StrangerVotes().now(3), 3);
    }

    @Sentence("BUNS (0 .. 20; 3 at first).")
    static void bunsAreNoneAtLeast() {
        due.is("now(1)", told("c2 1 0;").now(1), 0);
    }

    @Sentence("BUNS (0 .. 20; 3 at first).")
    static void bunsAreTwentyAtMost() {
        due.is("now(1)", told("c2 1 20;").now(1), 20);
        isFaulty("c2 1 21;", 5);
        isFaulty("c2 1 99;", 5);
    }

    @Sentence("BUNS (0 .. 20; 3 at first).")
    static void bunsAreThreeAtFirst() {
        due.is("now(1)", new StrangerVotes().now(1), 3);
    }

    // ---- trains, residents

    @Sentence("TRAINS 0 .. (8 at most): HOUR (0 .. 23), CROWD (1 .. 30), whom it LIKES.")
    static void trainsAreEightAtMost() {
        StrangerVotes x = told(EIGHT_TRAINS);
        due.is("count(2)", x.count(2), 8);
        rows("train 7", train(x, 7), 0, 1, 0, 0);
        due.is("train(8, 0)", x.train(8, 0), BAD);
        isFaulty(EIGHT_TRAINS + "t0 1 0;", 56);
    }

    @Sentence("TRAINS 0 .. (8 at most): HOUR (0 .. 23), CROWD (1 .. 30), whom it LIKES.")
    static void hourOfATrainIs0To23() {
        rows("train 0", train(told("t0 9 1;"), 0), 0, 9, 1, 0);
        rows("train 0", train(told("t23 9 1;"), 0), 23, 9, 1, 0);
        isFaulty("t24 9 1;", 1);
        isFaulty("t99 9 1;", 1);
    }

    @Sentence("TRAINS 0 .. (8 at most): HOUR (0 .. 23), CROWD (1 .. 30), whom it LIKES.")
    static void crowdOfATrainIs1To30() {
        rows("train 0", train(told("t4 1 1;"), 0), 4, 1, 1, 0);
        rows("train 0", train(told("t4 30 1;"), 0), 4, 30, 1, 0);
        isFaulty("t4 0 1;", 3);
        isFaulty("t4 31 1;", 3);
    }

    @Sentence("TRAINS 0 .. (8 at most): HOUR (0 .. 23), CROWD (1 .. 30), whom it LIKES.")
    static void whomATrainLikesIsACandidate() {
        for (int many = 2; many <= 6; many++) {
            String candidates = "c" + many + " 1 0;";
            rows("train 0", train(told(candidates + "t0 1 0;"), 0), 0, 1, 0, 0);
            rows("train 0", train(told(candidates + "t0 1 " + (many - 1) + ";"), 0), 0, 1, many - 1, 0);
            isFaulty(candidates + "t0 1 " + many + ";", 12);
        }
        rows("train 0", train(told("t0 1 2;"), 0), 0, 1, 2, 0);
        isFaulty("t0 1 3;", 5);
    }

    @Sentence("RESIDENTS 0 .. (6 at most) are groups: MANY (1 .. 30), FIRST, SECOND (unlike CANDIDATES) that it likes.")
    static void groupsAreSixAtMost() {
        StrangerVotes x = told(SIX_GROUPS);
        due.is("count(3)", x.count(3), 6);
        rows("group 5", group(x, 5), 1, 0, 1, 0);
        due.is("group(6, 0)", x.group(6, 0), BAD);
        isFaulty(SIX_GROUPS + "r1 0 1;", 42);
    }

    @Sentence("RESIDENTS 0 .. (6 at most) are groups: MANY (1 .. 30), FIRST, SECOND (unlike CANDIDATES) that it likes.")
    static void manyOfAGroupIs1To30() {
        rows("group 0", group(told("r1 2 0;"), 0), 1, 2, 0, 0);
        rows("group 0", group(told("r30 2 0;"), 0), 30, 2, 0, 0);
        isFaulty("r0 2 0;", 1);
        isFaulty("r31 2 0;", 1);
    }

    @Sentence("RESIDENTS 0 .. (6 at most) are groups: MANY (1 .. 30), FIRST, SECOND (unlike CANDIDATES) that it likes.")
    static void firstAndSecondAreCandidates() {
        for (int many = 2; many <= 6; many++) {
            String candidates = "c" + many + " 1 0;";
            int last = many - 1;
            rows("group 0", group(told(candidates + "r1 0 " + last + ";"), 0), 1, 0, last, 0);
            rows("group 0", group(told(candidates + "r1 " + last + " 0;"), 0), 1, last, 0, 0);
            isFaulty(candidates + "r1 " + many + " 0;", 10);
            isFaulty(candidates + "r1 0 " + many + ";", 12);
        }
        isFaulty("r1 3 0;", 3);
        isFaulty("r1 0 3;", 5);
    }

    @Sentence({"FIRST, SECOND (unlike CANDIDATES) that it likes.", "S that is F"})
    static void secondIsNotTheFirst() {
        for (int c = 0; c < 6; c++) isFaulty("c6 1 0;r1 " + c + " " + c + ";", 12);
        isFaulty("r 1 0  0;", 7);
    }

    // ---- the text

    @Sentence("They are a text (120 bytes at most), read byte by byte,")
    static void aTextOf120BytesIsRead() {
        String text = "t10 10 0;t10 10 0;t10 10 0;t10 10 0;t10 10 0;t10 10 0;t10 10 0;t10 10 1;"
            + "r10 0 1;r10 0 1;r10 0 1;r10 0 1;r10 0 1;r9 2 1 ;";
        due.is("bytes", text.length(), 120);
        StrangerVotes x = told(text);
        rows("counts", counts(x), 3, 2, 8, 6, 0, 0, 0);
        rows("train 7", train(x, 7), 10, 10, 1, 0);
        rows("group 5", group(x, 5), 9, 2, 1, 0);
        isFaulty(text.substring(0, 119) + " ", 120);
        isFaulty(text.substring(0, 119) + "x", 119);
    }

    @Sentence("blanks (32) ahead of, between and behind TOKENS as may be")
    static void blanksAreAnywhereBetweenTokens() {
        StrangerVotes x = new StrangerVotes();
        due.is("town()", read(x, "   c  2   1    0  ;   t  5   7 1   ;  r 9  1  0 ;  "), 3);
        rows("counts", counts(x), 2, 1, 1, 1, 0, 0, 0);
        due.is("now(1)", x.now(1), 0);
        rows("train 0", train(x, 0), 5, 7, 1, 0);
        rows("group 0", group(x, 0), 9, 1, 0, 0);
    }

    @Sentence("blanks (32) ahead of, between and behind TOKENS as may be")
    static void noOtherByteIsABlank() {
        int[] others = {0, 9, 10, 11, 12, 13, 31, 33, 95, 127, 160, 255};
        for (int other : others) {
            isFaulty((char) other + "t1 2 0;", 0);
            isFaulty("t1" + (char) other + "2 0;", 2);
            isFaulty("t1 2 0;" + (char) other, 7);
        }
    }

    @Sentence("(none needed where TOKENS end without);")
    static void tokensEndWithoutBlanks() {
        StrangerVotes x = new StrangerVotes();
        due.is("town()", read(x, "c4 3 2;t1 5 3;r4 0 1;t2 6 2;"), 4);
        rows("counts", counts(x), 4, 3, 2, 1, 0, 0, 0);
        rows("train 1", train(x, 1), 2, 6, 2, 0);
        isFaulty("t12 5;", 5);
        isFaulty("t1 2 0t1 2 0;", 6);
    }

    @Sentence("ITEMS (none, too)")
    static void noItems() {
        isRead("", 0);
        isRead(" ", 0);
        isRead("        ", 0);
        StrangerVotes x = told("c5 4 9;t0 5 1;r6 1 2;");
        due.is("town()", read(x, ""), 0);
        rows("counts", counts(x), 3, 2, 0, 0, 0, 0, 0);
        due.is("now(1)", x.now(1), 3);
    }

    @Sentence("each letters and what is told, ended by ; :")
    static void itemsAreEnded() {
        isRead("t1 2 0;", 1);
        isFaulty("t1 2 0", 6);
        isFaulty("t1 2 0t1 2 0;", 6);
        isFaulty("t1 2 0 0;", 7);
        isFaulty("t1 2;", 4);
        isFaulty("t1;", 2);
        isFaulty("t;", 1);
        isFaulty(";", 0);
        isFaulty("t1 2 0;;", 7);
        isFaulty("c2 1;", 4);
        isFaulty("c2 1 0 0;", 7);
        isFaulty("r1 2;", 4);
        isFaulty("r1 2 0 0;", 7);
        isFaulty("1;", 0);
        isFaulty("1t 2 0;", 0);
        // Numbers that the letters c, r and t have as bytes.
        isFaulty("99 2 1 0;", 0);
        isFaulty("114 1 0 1;", 0);
        isFaulty("116 1 2 0;", 0);
        isFaulty("t1 2 0; 99 2 1 0;", 8);
        isFaulty("t1 2 t;", 5);
    }

    @Sentence({"c N L B (CANDIDATES, LEFT, BUNS; the first of all, if it is told) ;", "c behind another ITEM"})
    static void candidatesComeFirst() {
        StrangerVotes x = told("c6 4 17;");
        due.is("count(0)", x.count(0), 6);
        due.is("count(1)", x.count(1), 4);
        due.is("now(1)", x.now(1), 17);
        isFaulty("c2 1 0; c2 1 0;", 8);
        isFaulty("t1 2 0;c2 1 0;", 7);
        isFaulty("r1 0 1;c2 1 0;", 7);
        isFaulty("c2 1 0;t1 2 0; c2 1 0;", 15);
        isFaulty("t1 2 0;cc2 1 0;", 7);
    }

    @Sentence("c N L B (CANDIDATES, LEFT, BUNS; the first of all, if it is told) ;")
    static void candidatesNeedNotBeTold() {
        StrangerVotes x = told("r1 2 1;t1 2 2;");
        rows("counts", counts(x), 3, 2, 1, 1, 0, 0, 0);
        due.is("now(1)", x.now(1), 3);
    }

    @Sentence("t H C L (the next TRAIN) ;")
    static void trainsComeInTheirOrder() {
        StrangerVotes x = told("t1 2 0;r7 1 0;t3 4 1;r8 2 0;t5 6 2;");
        due.is("count(2)", x.count(2), 3);
        rows("train 0", train(x, 0), 1, 2, 0, 0);
        rows("train 1", train(x, 1), 3, 4, 1, 0);
        rows("train 2", train(x, 2), 5, 6, 2, 0);
    }

    @Sentence("r M F S (the next group of RESIDENTS).")
    static void groupsComeInTheirOrder() {
        StrangerVotes x = told("r7 1 0;t3 4 1;r8 2 0;r9 0 2;");
        due.is("count(3)", x.count(3), 3);
        rows("group 0", group(x, 0), 7, 1, 0, 0);
        rows("group 1", group(x, 1), 8, 2, 0, 0);
        rows("group 2", group(x, 2), 9, 0, 2, 0);
    }

    // ---- faults

    @Sentence("TOKENS are letters a .. z side by side, NUMBERS and ; .")
    static void lettersAreAToZ() {
        isFaulty("`1 2 0;", 0);
        isFaulty("a1 2 0;", 0);
        isFaulty("z1 2 0;", 0);
        isFaulty("{1 2 0;", 0);
        isFaulty("T1 2 0;", 0);
        isFaulty("C2 1 0;", 0);
        isFaulty("R1 0 1;", 0);
        isFaulty("t1 2 0;R1 0 1;", 7);
    }

    @Sentence("TOKENS are letters a .. z side by side, NUMBERS and ; .")
    static void lettersSideBySideAreOneToken() {
        isFaulty("tt1 2 0;", 0);
        isFaulty("  ct2 1 0;", 2);
        isFaulty("ta1 2 0;", 0);
        isFaulty("tz1 2 0;", 0);
        isFaulty("t t1 2 0;", 2);
        isFaulty("at1 2 0;", 0);
        isFaulty("t`1 2 0;", 1);
        isFaulty("t{1 2 0;", 1);
    }

    @Sentence("TOKENS are letters a .. z side by side, NUMBERS and ; .")
    static void numbersAreDigitsSideBySide() {
        rows("train 0", train(told("t19 28 2;"), 0), 19, 28, 2, 0);
        isFaulty("t1 9 28 2;", 5);
        isFaulty("t/1 2 0;", 1);
        isFaulty("t:1 2 0;", 1);
        isFaulty("t-1 2 0;", 1);
        isFaulty("t+1 2 0;", 1);
        isFaulty("t1,2 0;", 2);
        isFaulty("t1 2.0;", 4);
    }

    @Sentence("FAULT: the place of the first byte of the first TOKEN that can't stand there")
    static void theFirstFaultIsTold() {
        isFaulty("t1 2 0;t24 0 3;", 8);
        isFaulty("t1 2 0;t23 0 3;", 11);
        isFaulty("t1 2 0;t23 1 3;", 13);
        isFaulty("x#", 0);
        isFaulty("#x", 0);
        isFaulty("t1 31 0;#", 3);
        isFaulty("c2 3", 3);
        isFaulty("c7 8 21;", 1);
        isFaulty("r1 3 3;", 3);
        isFaulty("   t   1   2   zzz", 15);
    }

    @Sentence("letters that begin no ITEM")
    static void lettersThatBeginNoItem() {
        for (char letter = 'a'; letter <= 'z'; letter++) {
            if (letter == 'c' || letter == 't' || letter == 'r') continue;
            isFaulty(" " + letter + "1 1 0;", 1);
        }
        isFaulty("t1 2 0; cr", 8);
        isFaulty("cc2 1 0;", 0);
        isFaulty("rr1 0 1;", 0);
    }

    @Sentence("a ninth TRAIN")
    static void aNinthTrainIsAFault() {
        isRead("c2 1 0;" + EIGHT_TRAINS + "r1 0 1;", 10);
        isFaulty("c2 1 0;" + EIGHT_TRAINS + "r1 0 1; t0 1 0;", 71);
        isFaulty(EIGHT_TRAINS + "t", 56);
    }

    @Sentence("a seventh group")
    static void aSeventhGroupIsAFault() {
        isRead("c2 1 0;" + SIX_GROUPS + "t0 1 0;", 8);
        isFaulty("c2 1 0;" + SIX_GROUPS + "t0 1 0; r1 0 1;", 57);
        isFaulty(SIX_GROUPS + "r", 42);
    }

    @Sentence("a NUMBER beyond what it may be, too)")
    static void aNumberBeyondIsAFault() {
        isFaulty(" c  7  1  0 ;", 4);
        isFaulty(" c  6  7  0 ;", 7);
        isFaulty(" c  6  6 21 ;", 9);
        isFaulty(" t 24  1  0 ;", 3);
        isFaulty(" t 23 31  0 ;", 6);
        isFaulty(" t 23 30  3 ;", 10);
        isFaulty(" r 31  0  1 ;", 3);
        isFaulty(" r 30  3  1 ;", 7);
        isFaulty(" r 30  0  3 ;", 10);
    }

    @Sentence("of a byte that begins none,")
    static void aByteThatBeginsNoToken() {
        for (int other : new int[] {0, 1, 31, 33, 47, 58, 60, 64, 65, 90, 91, 96, 123, 127, 128, 255}) {
            char odd = (char) other;
            isFaulty(odd + "", 0);
            isFaulty("t" + odd, 1);
            isFaulty("t1 2 0" + odd, 6);
            isFaulty(" t1 2 0; " + odd + "t1 2 0;", 9);
        }
    }

    @Sentence("a NUMBER above 99 or")
    static void aNumberAbove99IsAFault() {
        isFaulty("t100 1 0;", 1);
        isFaulty("t1 100 0;", 3);
        isFaulty("t1 1 100;", 5);
        isFaulty("t1 1 0 100;", 7);
        isFaulty("t1 1 0;100", 7);
        isFaulty("  100", 2);
        isFaulty("t1 256 0;", 3);
        isFaulty("t1 65537 0;", 3);
        isFaulty("t1 4294967297 0;", 3);
        isFaulty("t1 18446744073709551617 0;", 3);
        isFaulty("t1 100000000000000000000000000000000000000000000000005 0;", 3);
        isFaulty("t1 1 0;r340282366920938463463374607431768211457 0 1;", 8);
    }

    @Sentence("or with a 0 ahead of others, that TOKEN's;")
    static void aNumberWithA0AheadIsAFault() {
        isRead("t0 10 0;", 1);
        isFaulty("t00 1 0;", 1);
        isFaulty("t01 1 0;", 1);
        isFaulty("t1 05 0;", 3);
        isFaulty("t1 5 00;", 5);
        isFaulty("t1 5 02;", 5);
        isFaulty("c02 1 0;", 1);
        isFaulty("c2 01 0;", 3);
        isFaulty("c2 1 00;", 5);
        isFaulty("r01 0 1;", 1);
        isFaulty("r1 00 1;", 3);
        isFaulty("r1 0 01;", 5);
        isFaulty("t1 5 000000000000000000000000000000000000000;", 5);
        isFaulty("t1 1 0;01", 7);
    }

    @Sentence("the text's length, if it ends too early.")
    static void aTextThatEndsTooEarly() {
        String text = "c2 1 0;t1 2 1;r3 0 1;";
        for (int length = 0; length <= text.length(); length++) {
            String some = text.substring(0, length);
            boolean ends = length % 7 == 0;
            due.is("town() of \"" + some + "\"", read(new StrangerVotes(), some), ends ? length / 7 : -10 - length);
            due.is("town() of \"" + some + "  \"", read(new StrangerVotes(), some + "  "),
                ends ? length / 7 : -12 - length);
        }
    }

    // ---- read anew

    @Sentence("(Read anew: as told (what is not told as at first)")
    static void readAnewAsToldAndElseAsAtFirst() {
        StrangerVotes x = told("c5 4 9;t0 5 1;t3 4 2;r6 1 2;r7 4 0;");
        due.is("town()", read(x, "r2 1 0;t4 7 2;"), 2);
        rows("counts", counts(x), 3, 2, 1, 1, 0, 0, 0);
        due.is("now(1)", x.now(1), 3);
        rows("train 0", train(x, 0), 4, 7, 2, 0);
        rows("group 0", group(x, 0), 2, 1, 0, 0);
        due.is("train(1, 0)", x.train(1, 0), BAD);
        due.is("group(1, 0)", x.group(1, 0), BAD);
        due.is("votes(3, 0)", x.votes(3, 0), BAD);
    }

    @Sentence("(Read anew: as told (what is not told as at first)")
    static void readAnewAgainAndAgain() {
        String most = "c6 5 20;" + EIGHT_TRAINS + SIX_GROUPS;
        String many = "c5 4 9;" + EIGHT_TRAINS + "r9 2 1;r9 2 1;r9 2 1;";
        for (String text : new String[] {"", "t4 7 2;r1 0 1;", "r2 1 0;r1 2 1;", "c2 1 0;"}) {
            StrangerVotes x = told(most);
            due.is("town()", read(x, many), 12);
            due.holds("is read: " + text, read(x, text) >= 0);
            same("read anew", look(x), look(told(text)));
            due.is("town()", read(x, "t4 7 2;"), 1);
            same("read anew again", look(x), look(told("t4 7 2;")));
        }
    }

    @Sentence({"(Read anew: as told (what is not told as at first)", "-10 less FAULT: nothing changes"})
    static void readAnewBehindAFault() {
        StrangerVotes x = new StrangerVotes();
        due.is("town()", read(x, "c6 5 20;" + EIGHT_TRAINS + SIX_GROUPS + "#"), -116);
        x.clear();
        due.is("town()", read(x, "t1 2 0;"), 1);
        same("read anew", look(x), look(told("t1 2 0;")));
        due.is("town()", read(x, "c2 1 1;" + EIGHT_TRAINS + SIX_GROUPS + "t"), -115);
        x.clear();
        due.is("town()", read(x, "r1 2 0;"), 1);
        same("read anew", look(x), look(told("r1 2 0;")));
    }

    @Sentence({"(Read anew: as told (what is not told as at first)",
        "At first the HOUR is 0, nobody has VOTES, no TRAIN has STOPPED, there is no FOG, nobody has a RUG."})
    static void readAnewNothingIsDone() {
        StrangerVotes x = told("c2 1 9;t0 5 1;t2 4 0;r6 1 0;");
        x.hour();
        x.holds(1);
        x.canvasses(1, 1);
        x.fog(1);
        x.rugs(0);
        due.is("town()", read(x, "c2 1 9;t0 5 1;t2 4 0;r6 1 0;"), 4);
        same("read anew", look(x), look(told("c2 1 9;t0 5 1;t2 4 0;r6 1 0;")));
        due.is("hour()", x.hour(), 1);
        due.is("rugs(0)", x.rugs(0), 11);
    }

    @Sentence("nothing HEARD or to be UNDONE, IMAGES are gone;")
    static void readAnewNothingHeard() {
        StrangerVotes x = told("c4 1 0;");
        x.hears(0, 1);
        x.hears(2, 3);
        read(x, "c4 1 0;");
        due.is("count(4)", x.count(4), 0);
        due.is("likings(0)", x.likings(0), 12);
        due.is("forget()", x.forget(), 0);
        due.is("hears(3, 2)", x.hears(3, 2), 1);
        due.is("likings(1)", x.likings(1), 3);
    }

    @Sentence("nothing HEARD or to be UNDONE, IMAGES are gone;")
    static void readAnewNothingToBeUndone() {
        StrangerVotes x = told("t0 5 1;");
        hours(x, 12);
        read(x, "t0 5 1;");
        due.is("count(5)", x.count(5), 0);
        due.is("undo()", x.undo(), STATE);
        x.hour();
        due.is("undo()", x.undo(), 0);
        due.is("now(0)", x.now(0), 0);
    }

    @Sentence("nothing HEARD or to be UNDONE, IMAGES are gone;")
    static void readAnewImagesAreGone() {
        StrangerVotes x = told("t0 5 1;");
        x.keep(0);
        x.keep(1);
        due.is("town()", read(x, ""), 0);
        due.is("back(0)", x.back(0), STATE);
        due.is("back(1)", x.back(1), STATE);
        due.is("keep(1)", x.keep(1), 0);
        due.is("back(0)", x.back(0), STATE);
        due.is("back(1)", x.back(1), 0);
    }

    @Sentence("THE TRACE stays.)")
    static void readAnewTheTraceStays() {
        StrangerVotes x = told("t0 5 1;");
        x.mark(3, 1);
        x.mark(5, 0);
        read(x, "c2 1 0;");
        due.is("trace()", x.trace(), 101012);
        x.mark(0, 0);
        due.is("trace()", x.trace(), 101013);
    }

    // ---- promises 1 to 6

    @Sentence({"As told; no TRAINS, no RESIDENTS.",
        "At first the HOUR is 0, nobody has VOTES, no TRAIN has STOPPED, there is no FOG, nobody has a RUG."})
    static void aNewObject() {
        StrangerVotes x = new StrangerVotes();
        rows("counts", counts(x), 3, 2, 0, 0, 0, 0, 0);
        rows("now", now(x), 0, 3, 0, 3, 3, 0, 0);
        rows("votes", votes(x), 0, 0, 0);
        rows("votes in the end", votesInTheEnd(x), 0, 0, 0);
        due.is("train(0, 0)", x.train(0, 0), BAD);
        due.is("group(0, 0)", x.group(0, 0), BAD);
        due.is("undo()", x.undo(), STATE);
        due.is("back(0)", x.back(0), STATE);
        due.is("back(1)", x.back(1), STATE);
        due.is("likings(0)", x.likings(0), 6);
        due.is("trace()", x.trace(), 0);
        due.is("clear()", x.clear(), 0);
    }

    @Sentence("At first the HOUR is 0, nobody has VOTES, no TRAIN has STOPPED, there is no FOG, nobody has a RUG.")
    static void aTownAtFirst() {
        StrangerVotes x = told("c4 3 5;t0 5 1;t2 4 0;r6 1 0;r4 0 3;");
        rows("now", now(x), 0, 5, 0, 7, 7, 1, 1);
        rows("votes", votes(x), 0, 0, 0, 0);
        rows("train 0", train(x, 0), 0, 5, 1, 0);
        rows("train 1", train(x, 1), 2, 4, 0, 0);
        rows("group 0", group(x, 0), 6, 1, 0, 0);
        rows("group 1", group(x, 1), 4, 0, 3, 0);
        due.is("undo()", x.undo(), STATE);
    }

    @Sentence("As told; no TRAINS, no RESIDENTS.")
    static void objectsHaveNothingInCommon() {
        StrangerVotes x = told("c4 3 5;t0 5 1;r6 1 0;");
        StrangerVotes y = new StrangerVotes();
        x.hour();
        x.rugs(0);
        x.hears(1, 2);
        x.mark(4, 1);
        x.keep(0);
        x.type('c');
        same("another object", look(y), look(new StrangerVotes()));
        due.is("back(0)", y.back(0), STATE);
        y.fog(1);
        due.is("now(2)", x.now(2), 0);
        due.is("now(0)", x.now(0), 1);
    }

    @Sentence("A byte (0 .. 255) comes to THE TEXT: how many it has. BAD; FULL.")
    static void typeAnswersHowManyBytes() {
        StrangerVotes x = new StrangerVotes();
        for (int i = 1; i <= 120; i++) {
            due.is("type(32)", x.type(32), i);
            due.is("count(6)", x.count(6), i);
        }
    }

    @Sentence("A byte (0 .. 255) comes to THE TEXT: how many it has. BAD; FULL.")
    static void typeTakesBytesAlone() {
        StrangerVotes x = new StrangerVotes();
        for (int wrong : new int[] {-1, 256, 257, 65568, -224, 0x7fffff20, Integer.MIN_VALUE, Integer.MAX_VALUE}) {
            due.is("type(" + wrong + ")", x.type(wrong), BAD);
        }
        due.is("count(6)", x.count(6), 0);
        due.is("type(0)", x.type(0), 1);
        due.is("type(255)", x.type(255), 2);
        due.is("type(59)", x.type(59), 3);
    }

    @Sentence({"They are a text (120 bytes at most), read byte by byte,",
        "A byte (0 .. 255) comes to THE TEXT: how many it has. BAD; FULL."})
    static void typeIsFullAt120() {
        StrangerVotes x = new StrangerVotes();
        type(x, "t1 2 0;");
        for (int i = 8; i <= 120; i++) x.type(32);
        due.is("type(32)", x.type(32), FULL);
        due.is("type(35)", x.type(35), FULL);
        due.is("count(6)", x.count(6), 120);
        due.is("town()", x.town(), 1);
        due.is("type(32)", x.type(32), 1);
    }

    @Sentence("THE TEXT is empty: how many bytes it had.")
    static void clearEmptiesTheText() {
        StrangerVotes x = new StrangerVotes();
        due.is("clear()", x.clear(), 0);
        type(x, "t1 2 0");
        due.is("clear()", x.clear(), 6);
        due.is("count(6)", x.count(6), 0);
        due.is("clear()", x.clear(), 0);
        due.is("town()", x.town(), 0);
        due.is("count(2)", x.count(2), 0);
    }

    @Sentence("THE TEXT is empty: how many bytes it had.")
    static void clearOfAFullText() {
        StrangerVotes x = new StrangerVotes();
        for (int i = 0; i < 125; i++) x.type('x');
        due.is("clear()", x.clear(), 120);
        due.is("town()", read(x, "t1 2 0;"), 1);
        rows("train 0", train(x, 0), 1, 2, 0, 0);
    }

    @Sentence("THE TEXT is empty: how many bytes it had.")
    static void clearChangesTheTextAlone() {
        StrangerVotes x = told("c4 3 5;t0 5 1;r6 1 0;");
        x.hour();
        x.hears(1, 2);
        x.keep(1);
        String before = look(x);
        type(x, "t1");
        x.clear();
        same("clear()", look(x), before);
        due.is("back(1)", x.back(1), 1);
    }

    @Sentence("THE TEXT tells all, and is empty then: how many ITEMS.")
    static void townAnswersHowManyItems() {
        isRead("c2 1 0;", 1);
        isRead("t1 2 0;", 1);
        isRead("r1 0 1;", 1);
        isRead("c2 1 0;r1 0 1;t1 2 0;", 3);
        isRead("c2 1 0;" + EIGHT_TRAINS + SIX_GROUPS, 15);
    }

    @Sentence("THE TEXT tells all, and is empty then: how many ITEMS.")
    static void townEmptiesTheText() {
        StrangerVotes x = told("t1 2 0;");
        due.is("count(6)", x.count(6), 0);
        due.is("clear()", x.clear(), 0);
        due.is("town()", x.town(), 0);
        due.is("count(2)", x.count(2), 0);
    }

    @Sentence("-10 less FAULT: nothing changes (THE TEXT, too, stays).")
    static void aFaultChangesNothing() {
        StrangerVotes x = told("c5 4 9;t0 5 1;t3 4 2;r6 1 2;");
        x.hour();
        x.fog(1);
        x.rugs(0);
        x.hears(0, 1);
        x.keep(0);
        x.keep(1);
        x.mark(3, 1);
        type(x, "c2 1 1;t1 1 1;r1 0 1;t");
        String before = look(x);
        due.is("town()", x.town(), -32);
        same("a fault", look(x), before);
        due.is("town()", x.town(), -32);
        due.is("undo()", x.undo(), 2);
        due.is("back(0)", x.back(0), 1);
        due.is("back(1)", x.back(1), 1);
        same("both images", look(x), before);
    }

    @Sentence("-10 less FAULT: nothing changes (THE TEXT, too, stays).")
    static void aFaultyTextStaysAndGoesOn() {
        StrangerVotes x = new StrangerVotes();
        due.is("town()", read(x, "t1 5"), -14);
        due.is("count(6)", x.count(6), 4);
        due.is("town()", read(x, " 2"), -16);
        due.is("town()", read(x, ";"), 1);
        rows("train 0", train(x, 0), 1, 5, 2, 0);
        due.is("count(6)", x.count(6), 0);
        due.is("town()", read(x, "#"), -10);
        due.is("town()", read(x, "t1 5 0;"), -10);
        due.is("clear()", x.clear(), 8);
        due.is("train(0, 1)", x.train(0, 1), 5);
    }

    @Sentence("-10 less FAULT: nothing changes (THE TEXT, too, stays).")
    static void faultsFarBehind() {
        StrangerVotes x = new StrangerVotes();
        for (int i = 0; i < 119; i++) x.type(32);
        x.type('#');
        due.is("town()", x.town(), -129);
        x.clear();
        for (int i = 0; i < 119; i++) x.type(32);
        x.type('t');
        due.is("town()", x.town(), -130);
    }

    @Sentence("Of a TRAIN: 0 HOUR, 1 CROWD, 2 whom it LIKES, 3 whether it has STOPPED (1, 0). BAD.")
    static void trainTellsAllOfATrain() {
        StrangerVotes x = told("t2 5 1;t0 9 2;");
        rows("train 0", train(x, 0), 2, 5, 1, 0);
        x.holds(0);
        x.canvasses(0, 0);
        x.hour();
        rows("train 0", train(x, 0), 3, 5, 0, 0);
        rows("train 1", train(x, 1), 0, 9, 2, 1);
    }

    @Sentence("Of a TRAIN: 0 HOUR, 1 CROWD, 2 whom it LIKES, 3 whether it has STOPPED (1, 0). BAD.")
    static void trainIsBad() {
        StrangerVotes x = told("t2 5 1;t0 9 2;");
        for (int wrong : new int[] {-1, 2, 8, 32, Integer.MIN_VALUE, Integer.MAX_VALUE}) {
            due.is("train(" + wrong + ", 0)", x.train(wrong, 0), BAD);
        }
        for (int wrong : new int[] {-1, 4, 5, Integer.MIN_VALUE, Integer.MAX_VALUE}) {
            due.is("train(0, " + wrong + ")", x.train(0, wrong), BAD);
        }
    }

    @Sentence("Of a group: 0 MANY, 1 FIRST, 2 SECOND, 3 whether it has a RUG (1, 0). BAD.")
    static void groupTellsAllOfAGroup() {
        StrangerVotes x = told("r4 2 0;r7 0 1;");
        rows("group 0", group(x, 0), 4, 2, 0, 0);
        x.rugs(1);
        rows("group 0", group(x, 0), 4, 2, 0, 0);
        rows("group 1", group(x, 1), 7, 0, 1, 1);
    }

    @Sentence("Of a group: 0 MANY, 1 FIRST, 2 SECOND, 3 whether it has a RUG (1, 0). BAD.")
    static void groupIsBad() {
        StrangerVotes x = told("r4 2 0;r7 0 1;");
        for (int wrong : new int[] {-1, 2, 6, 32, Integer.MIN_VALUE, Integer.MAX_VALUE}) {
            due.is("group(" + wrong + ", 0)", x.group(wrong, 0), BAD);
        }
        for (int wrong : new int[] {-1, 4, 5, Integer.MIN_VALUE, Integer.MAX_VALUE}) {
            due.is("group(0, " + wrong + ")", x.group(0, wrong), BAD);
        }
    }
}
