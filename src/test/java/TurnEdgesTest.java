/** The edges that part 2 of the Terms and promises 6 to 13 name, a test for each sentence. */
final class TurnEdgesTest {
    private static final int NONE = TideDice.NONE, BAD = TideDice.BAD, STATE = TideDice.STATE, NO = TideDice.NO;
    private static final int LEAST = Integer.MIN_VALUE, MOST = Integer.MAX_VALUE;
    private static final Check check = new Check();

    public static void main(String[] args) {
        calls512();
        asAtFirst();
        tidesStayAt999();
        onePipOfEachDie();
        justTwoAlike();
        allThreeAlike();
        openIsNobodys();
        sumsOfOneTwoThree();
        sumsUpToTheBerths();
        inWindOne();
        taken();
        passed();
        left();
        theThrowIsGone();
        theOtherOneMoves();
        blindBehindTakenAndPassed();
        blindBehindLeft();
        bothBlind();
        goalAtItsEdges();
        behindAWin();
        blindBehindAWin();
        undoneThrown();
        undoneTaken();
        undonePassed();
        undoneLeft();
        undoneWin();
        twelveAreKnown();
        whoseABerthIs();
        playerAsked();
        raceOfAPlayer();
        throwsRefused();
        takesRefused();
        passesRefused();
        leavesRefused();
        undoRefused();
        nowAsked();
        owed();
        check.end();
    }

    private static void berthed(TideDice x, int a, int b, int c, int berth) {
        check.isTrue("open is " + berth, (x.throwsDice(a, b, c) >> berth & 1) == 1);
        x.takes(berth);
    }

    private static void calls512() {
        check.sentence("An object is used for at most 512 calls after it has been made");
        TideDice x = new TideDice();
        x.throwsDice(1, 2, 3);
        for (int made = 1; made < 510; made++) {
            x.leaves();
        }
        check.due("the 511th", x.leaves(), 0);
        check.due("the 512th", x.player(1, 1), 255);
    }

    private static void asAtFirst() {
        check.sentence("0 is to move at first.");
        TideDice x = new TideDice();
        check.due("now(0)", x.now(0), 0);
        check.sentence("Each has BERTHS (none), TIDES (0;");
        for (int p = 0; p < 2; p++) {
            check.due("berths", x.player(p, 0), 0);
            check.due("tides", x.player(p, 1), 0);
            check.due("blind", x.player(p, 2), 0);
        }
        check.sentence("WIND 0 or 1 (0 at first).");
        check.due("now(1)", x.now(1), 0);
        check.sentence("or none lies (at first)");
        check.due("now(2)", x.now(2), NONE);
        check.due("now(3)", x.now(3), 0);
    }

    /** More than 512 calls, behind which answers are free; but no shorter run gets there. */
    private static void tidesStayAt999() {
        check.sentence("TIDES (0; 999 at most: they stay there)");
        TideDice x = new TideDice();
        x.throwsDice(1, 2, 3);
        for (int i = 0; i < 998; i++) {
            x.leaves();
            x.leaves();
        }
        check.due("tides of 1, 998 left", x.player(1, 1), 998);
        x.leaves();
        check.due("tides of 1, 999 left", x.player(1, 1), 999);
        check.due("owed", x.now(5), -1);
        x.leaves();
        x.leaves();
        check.due("tides of 1, 1000 left", x.player(1, 1), 999);
        x.leaves();
        check.due("tides of 0, 1000 left", x.player(0, 1), 999);
        check.due("owed", x.now(5), 0);
        check.due("mark(5, 1)", x.mark(5, 1), 1999);

        x = new TideDice();
        berthed(x, 4, 5, 6, 6);
        berthed(x, 1, 2, 3, 1);
        berthed(x, 4, 5, 6, 4);
        berthed(x, 1, 2, 3, 2);
        int had = x.player(1, 1);
        x.throwsDice(3, 5, 1);
        for (int i = had; i < 998; i++) {
            x.leaves();
            x.leaves();
        }
        x.takes(8);
        check.due("tides of 1, two more than 998", x.player(1, 1), 999);
    }

    private static void onePipOfEachDie() {
        check.sentence("one PIP of each DIE lies now (none lay)");
        TideDice x = Check.harbour("d1 9;d2;d3 9;b18;");
        int[][] bad = {{2, 2, 3}, {1, 1, 3}, {1, 2, 2}, {3, 2, 3}, {1, 9, 3}, {1, 2, 1}, {0, 2, 3}, {1, 2, 10}};
        for (int[] t : bad) {
            check.due("throwsDice" + java.util.Arrays.toString(t), x.throwsDice(t[0], t[1], t[2]), BAD);
        }
        check.due("now(2)", x.now(2), NONE);
        x.throwsDice(9, 2, 9);
        check.due("now(2)", x.now(2), 929);
        check.due("throwsDice, one lies", x.throwsDice(1, 2, 3), STATE);
        check.due("now(2)", x.now(2), 929);
        x.leaves();
        check.due("throwsDice, one was left", x.throwsDice(1, 2, 3), STATE);
        check.due("now(2)", x.now(2), 929);
    }

    private static void justTwoAlike() {
        check.sentence("If just two of the three are alike, WIND turns");
        int[][] alike = {{5, 5, 6}, {5, 6, 5}, {6, 5, 5}};
        for (int[] t : alike) {
            TideDice x = Check.harbour("b3;");
            for (int wind : new int[] {1, 0, 1}) {
                x.throwsDice(t[0], t[1], t[2]);
                check.due("wind", x.now(1), wind);
                check.due("nobody is blind", x.player(0, 2) + x.player(1, 2), 0);
                x.passes();
                check.due("wind, behind it", x.now(1), wind);
            }
        }
        int[][] others = {{4, 5, 6}, {6, 5, 4}, {5, 5, 5}};
        for (int[] t : others) {
            TideDice x = Check.harbour("b3;");
            x.throwsDice(t[0], t[1], t[2]);
            check.due("wind, none or all alike", x.now(1), 0);
            x = Check.harbour("b3;");
            x.throwsDice(5, 5, 6);
            x.passes();
            x.throwsDice(t[0], t[1], t[2]);
            check.due("wind 1, none or all alike", x.now(1), 1);
        }
    }

    private static void allThreeAlike() {
        check.sentence("if all three are, he who threw becomes BLIND");
        TideDice x = Check.harbour("b3;");
        x.throwsDice(5, 5, 5);
        check.due("0 is blind", x.player(0, 2), 1);
        check.due("1 is not", x.player(1, 2), 0);
        x.passes();
        x.throwsDice(6, 6, 6);
        check.due("1 is blind", x.player(1, 2), 1);
        check.due("0 is still", x.player(0, 2), 1);
        x.passes();
        x.throwsDice(6, 6, 6);
        check.due("1 is blind, once more is no change", x.player(1, 2), 1);
        x = Check.harbour("b3;");
        x.throwsDice(5, 5, 5);
        x.leaves();
        check.due("he who threw, not who it was left to", x.player(1, 2), 0);
        check.due("he who threw", x.player(0, 2), 1);
    }

    private static void openIsNobodys() {
        check.sentence("OPEN are BERTHS that nobody has");
        TideDice x = new TideDice();
        berthed(x, 1, 2, 4, 3);
        check.due("but the other one's", x.throwsDice(1, 2, 4), Check.bits(1, 2, 4, 5, 6, 7));
        x.takes(5);
        check.due("but his own, too", x.throwsDice(1, 2, 4), Check.bits(1, 2, 4, 6, 7));
        check.due("now(3)", x.now(3), Check.bits(1, 2, 4, 6, 7));
        x = Check.harbour("d1;d1;d1;b3;g9;");
        for (int b = 1; b <= 3; b++) {
            berthed(x, 1, 1, 1, b);
        }
        check.due("all are somebody's", x.throwsDice(1, 1, 1), 0);
    }

    private static void sumsOfOneTwoThree() {
        check.sentence("by the sum of one, of two, of all three of the THROW");
        int[][] orders = {{1, 2, 4}, {4, 1, 2}, {2, 4, 1}};
        for (int[] t : orders) {
            TideDice x = Check.harbour("b18;");
            check.due("each of seven sums", x.throwsDice(t[0], t[1], t[2]), Check.bits(1, 2, 3, 4, 5, 6, 7));
        }
        TideDice x = Check.harbour("d9;d9;d9;b18;");
        check.due("alike sums", x.throwsDice(9, 9, 9), Check.bits(9, 18));
        x = Check.harbour("d1;d1;d1;b3;");
        check.due("the least", x.throwsDice(1, 1, 1), Check.bits(1, 2, 3));
    }

    private static void sumsUpToTheBerths() {
        check.sentence("1 to as many as there are");
        check.due("seven of seven", Check.harbour("b7;").throwsDice(1, 2, 4), Check.bits(1, 2, 3, 4, 5, 6, 7));
        check.due("seven of six", Check.harbour("b6;").throwsDice(1, 2, 4), Check.bits(1, 2, 3, 4, 5, 6));
        check.due("four of four", Check.harbour("b4;").throwsDice(4, 5, 6), Check.bits(4));
        check.due("four of three", Check.harbour("b3;").throwsDice(4, 5, 6), 0);
        check.due("18 of 18", Check.harbour("b18;").throwsDice(6, 6, 6), Check.bits(6, 12, 18));
        check.due("18 of 17", Check.harbour("b17;").throwsDice(6, 6, 6), Check.bits(6, 12));
        check.due("27 of 18", Check.harbour("d9;d8;d7;b18;").throwsDice(9, 8, 7), Check.bits(7, 8, 9, 15, 16, 17));
    }

    private static void inWindOne() {
        check.sentence("in WIND 1 it is the BERTH that is one more than how many there are, less the sum");
        // Two alike turn the wind ahead of what is open: sums 2, 4, 6, 8.
        check.due("of eight", Check.harbour("b8;").throwsDice(2, 2, 4), Check.bits(7, 5, 3, 1));
        check.due("of seven, 8 is beyond", Check.harbour("b7;").throwsDice(2, 2, 4), Check.bits(6, 4, 2));
        check.due("sum 1 of 18", Check.harbour("b18;").throwsDice(1, 1, 6), Check.bits(18, 13, 17, 12, 11));
        check.due("sum 18 of 18", Check.harbour("d9;d9;d8;b18;").throwsDice(9, 9, 8), Check.bits(10, 11, 1, 2));
        check.due("of three", Check.harbour("b3;").throwsDice(1, 1, 3), Check.bits(3, 2, 1));
        check.due("of three, beyond", Check.harbour("b3;").throwsDice(4, 4, 5), 0);
        TideDice x = Check.harbour("b7;");
        x.throwsDice(6, 6, 5);
        x.takes(2);
        check.due("none alike in wind 1", x.throwsDice(1, 2, 4), Check.bits(7, 6, 5, 4, 3, 1));
        x.takes(7);
        check.due("two alike turn it to 0", x.throwsDice(3, 3, 4), Check.bits(3, 4, 6));
    }

    private static void taken() {
        check.sentence("the other one gets a TIDE for each BERTH that he has below it");
        TideDice x = new TideDice();
        berthed(x, 1, 2, 4, 4);
        x.throwsDice(1, 2, 4);
        check.due("takes(3), his is above", x.takes(3), 0);
        check.due("tides of 0", x.player(0, 1), 0);
        x.throwsDice(1, 2, 4);
        check.due("takes(5), his 3 is below", x.takes(5), 1);
        check.due("tides of 1", x.player(1, 1), 1);
        check.due("tides of 0", x.player(0, 1), 0);
        x.throwsDice(1, 2, 3);
        check.due("takes(6), his 4, 5 are below", x.takes(6), 2);
        check.due("tides of 0", x.player(0, 1), 2);
        x.throwsDice(1, 6, 5);
        check.due("takes(7), his 3, 6 are below, one's own 4, 5 are nothing", x.takes(7), 2);
        check.due("tides of 1", x.player(1, 1), 3);
        check.due("berths of 0", x.player(0, 0), Check.bits(4, 5, 7));
        check.due("berths of 1", x.player(1, 0), Check.bits(3, 6));
        x = new TideDice();
        x.throwsDice(1, 2, 4);
        check.due("takes(7), nobody has any", x.takes(7), 0);
    }

    private static void passed() {
        check.sentence("PASSED: nothing is OPEN; nothing happens");
        TideDice x = Check.harbour("b3;");
        x.throwsDice(4, 5, 6);
        check.due("passes()", x.passes(), 1);
        for (int p = 0; p < 2; p++) {
            check.due("berths", x.player(p, 0), 0);
            check.due("tides", x.player(p, 1), 0);
            check.due("blind", x.player(p, 2), 0);
        }
        check.due("wind", x.now(1), 0);
        check.due("one to undo for the throw, one for this", x.count(4), 2);
    }

    private static void left() {
        check.sentence("LEFT: the THROW goes on lying for the other one, who gets a TIDE");
        TideDice x = Check.harbour("b3;");
        x.throwsDice(5, 5, 6);
        check.due("leaves, nothing being open", x.leaves(), 1);
        check.due("tides of 1", x.player(1, 1), 1);
        check.due("tides of 0", x.player(0, 1), 0);
        check.due("the throw", x.now(2), 556);
        check.due("the wind is not turned again", x.now(1), 1);
        check.due("passes what was left", x.passes(), 0);
        x.throwsDice(5, 1, 6);
        check.due("leaves, something being open", x.leaves(), 1);
        check.due("still open", x.now(3), Check.bits(3));
        check.due("tides of 1", x.player(1, 1), 2);
        check.due("leaves it back", x.leaves(), 0);
        check.due("tides of 0", x.player(0, 1), 1);
    }

    private static void theThrowIsGone() {
        check.sentence("Behind TAKEN, PASSED the THROW is gone");
        TideDice x = Check.harbour("b3;");
        x.throwsDice(1, 5, 6);
        x.takes(1);
        check.due("behind taken", x.now(2), NONE);
        check.due("nothing is open", x.now(3), 0);
        x.throwsDice(4, 5, 6);
        x.passes();
        check.due("behind passed", x.now(2), NONE);
        x.throwsDice(4, 5, 6);
        x.leaves();
        check.due("not behind left", x.now(2), 456);
    }

    private static void theOtherOneMoves() {
        check.sentence("Behind all three the other one is to move");
        TideDice x = Check.harbour("b3;");
        x.throwsDice(1, 5, 6);
        check.due("behind thrown the same one", x.now(0), 0);
        x.takes(1);
        check.due("behind taken", x.now(0), 1);
        x.throwsDice(4, 5, 6);
        x.passes();
        check.due("behind passed", x.now(0), 0);
        x.throwsDice(4, 5, 6);
        x.leaves();
        check.due("behind left", x.now(0), 1);
        x.passes();
        check.due("behind passed, of 1", x.now(0), 0);
    }

    private static void blindBehindTakenAndPassed() {
        check.sentence("if he is BLIND, and nothing lies, he is not BLIND any more, and the same one moves again");
        TideDice x = Check.harbour("b3;");
        x.throwsDice(5, 5, 5);
        x.passes();
        check.due("0 is blind, and 1 moves", x.now(0), 1);
        berthed(x, 1, 5, 6, 1);
        check.due("behind taken, the same one", x.now(0), 1);
        check.due("not blind any more", x.player(0, 2), 0);
        x.throwsDice(4, 5, 6);
        check.due("and then the other one", x.passes(), 0);
        x.throwsDice(5, 5, 5);
        x.passes();
        x.throwsDice(4, 5, 6);
        check.due("behind passed, the same one", x.passes(), 1);
        check.due("not blind any more", x.player(0, 2), 0);
        // 1 blind, 0 moving again.
        x.throwsDice(6, 6, 6);
        x.passes();
        x.throwsDice(4, 5, 6);
        check.due("behind passed, 0 again", x.passes(), 0);
        check.due("1 is not blind any more", x.player(1, 2), 0);
    }

    private static void blindBehindLeft() {
        check.sentence("and nothing lies");
        TideDice x = Check.harbour("b3;");
        x.throwsDice(5, 5, 5);
        x.passes();
        x.throwsDice(4, 5, 6);
        check.due("leaves, he is blind but one lies", x.leaves(), 0);
        check.due("he is blind still", x.player(0, 2), 1);
        check.due("passes, 1 is not blind", x.passes(), 1);
        check.due("0 is blind still", x.player(0, 2), 1);
        x.throwsDice(4, 5, 6);
        check.due("passes, nothing lies now", x.passes(), 1);
        check.due("0 is not blind any more", x.player(0, 2), 0);
    }

    private static void bothBlind() {
        check.sentence("the same one moves again");
        TideDice x = Check.harbour("b3;");
        x.throwsDice(5, 5, 5);
        x.passes();
        x.throwsDice(5, 5, 5);
        check.due("passes, both being blind", x.passes(), 1);
        check.due("0 is not any more", x.player(0, 2), 0);
        check.due("1 is blind, and moves", x.player(1, 2), 1);
    }

    private static void goalAtItsEdges() {
        check.sentence("WON: who has GOAL BERTHS, or more, at the end of a turn");
        TideDice x = Check.harbour("g1;");
        x.throwsDice(1, 2, 3);
        check.due("goal 1, thrown", x.now(4), NONE);
        x.takes(1);
        check.due("goal 1, one", x.now(4), 0);
        x = Check.harbour("g2;");
        berthed(x, 1, 2, 3, 1);
        berthed(x, 1, 2, 3, 2);
        check.due("goal 2, one each", x.now(4), NONE);
        x.throwsDice(1, 2, 3);
        x.leaves();
        x.takes(3);
        check.due("goal 2, by 1", x.now(4), 1);
        x = Check.harbour("b18;g9;");
        int[][] throwsAndBerths = {{1, 2, 3, 1}, {1, 2, 3, 2}, {1, 2, 3, 3}, {4, 5, 6, 4}, {4, 5, 6, 5}, {4, 5, 6, 6},
            {1, 2, 4, 7}, {1, 3, 4, 8}, {2, 3, 4, 9}};
        for (int i = 0; i < 9; i++) {
            check.due("goal 9, " + i, x.now(4), NONE);
            int[] t = throwsAndBerths[i];
            x.throwsDice(t[0], t[1], t[2]);
            if (i > 0) {
                x.leaves();
            }
            x.takes(t[3]);
        }
        check.due("goal 9, nine", x.now(4), 0);
    }

    private static TideDice wonByZero() {
        TideDice x = Check.harbour("g1;");
        x.throwsDice(1, 2, 3);
        x.takes(3);
        return x;
    }

    private static void behindAWin() {
        check.sentence("nobody moves any more, who is BLIND stays so: then all but undo() are STATE");
        TideDice x = wonByZero();
        check.due("now(0)", x.now(0), NONE);
        check.due("throwsDice", x.throwsDice(1, 2, 3), STATE);
        check.due("takes", x.takes(1), STATE);
        check.due("takes, one that is his", x.takes(3), STATE);
        check.due("passes", x.passes(), STATE);
        check.due("leaves", x.leaves(), STATE);
        check.due("now(2)", x.now(2), NONE);
        check.due("count(4)", x.count(4), 2);
        check.due("undo", x.undo(), 1);
    }

    private static void blindBehindAWin() {
        check.sentence("who is BLIND stays so");
        TideDice x = Check.harbour("g1;");
        x.throwsDice(1, 1, 1);
        x.leaves();
        x.takes(1);
        check.due("1 won", x.now(4), 1);
        check.due("0 is blind", x.player(0, 2), 1);
        x = Check.harbour("g1;");
        x.throwsDice(1, 1, 1);
        x.takes(1);
        check.due("0 won, blind himself", x.player(0, 2), 1);
    }

    private static void undoneThrown() {
        check.sentence("UNDONE: the latest THROWN");
        TideDice x = new TideDice();
        x.throwsDice(1, 1, 2);
        check.due("undo", x.undo(), 0);
        check.due("wind", x.now(1), 0);
        check.due("throw", x.now(2), NONE);
        check.due("who moves", x.now(0), 0);
        x.throwsDice(1, 1, 1);
        x.undo();
        check.due("blind", x.player(0, 2), 0);
        x.throwsDice(1, 1, 1);
        x.takes(1);
        x.throwsDice(1, 2, 3);
        x.undo();
        check.due("blind ahead of it", x.player(0, 2), 1);
    }

    private static void undoneTaken() {
        check.sentence("UNDONE: the latest THROWN, TAKEN");
        TideDice x = new TideDice();
        berthed(x, 3, 3, 3, 3);
        x.throwsDice(1, 1, 4);
        check.due("takes(12)", x.takes(12), 1);
        check.due("1 again", x.now(0), 1);
        check.due("undo", x.undo(), 3);
        check.due("berth(12)", x.berth(12), NONE);
        check.due("berth(3)", x.berth(3), 0);
        check.due("tides", x.player(0, 1), 0);
        check.due("the throw lies", x.now(2), 114);
        check.due("in its wind", x.now(1), 1);
        check.due("0 is blind again", x.player(0, 2), 1);
        check.due("who moves", x.now(0), 1);
        check.due("another is taken", x.takes(11), 1);
    }

    private static void undonePassed() {
        check.sentence("UNDONE: the latest THROWN, TAKEN, PASSED");
        TideDice x = Check.harbour("b3;");
        x.throwsDice(5, 5, 5);
        x.passes();
        x.throwsDice(4, 5, 6);
        x.passes();
        check.due("undo", x.undo(), 3);
        check.due("0 is blind again", x.player(0, 2), 1);
        check.due("the throw lies", x.now(2), 456);
        check.due("who moves", x.now(0), 1);
        x.undo();
        check.due("undo", x.undo(), 1);
        check.due("the throw lies", x.now(2), 555);
        check.due("who moves", x.now(0), 0);
    }

    private static void undoneLeft() {
        check.sentence("UNDONE: the latest THROWN, TAKEN, PASSED, LEFT");
        TideDice x = new TideDice();
        x.throwsDice(1, 2, 3);
        x.leaves();
        x.leaves();
        check.due("undo", x.undo(), 2);
        check.due("who moves", x.now(0), 1);
        check.due("tides of 0", x.player(0, 1), 0);
        check.due("tides of 1", x.player(1, 1), 1);
        check.due("undo", x.undo(), 1);
        check.due("who moves", x.now(0), 0);
        check.due("tides of 1", x.player(1, 1), 0);
        check.due("the throw lies", x.now(2), 123);
    }

    private static void undoneWin() {
        check.sentence("all is as ahead of it");
        TideDice x = wonByZero();
        check.due("undo", x.undo(), 1);
        check.due("who won", x.now(4), NONE);
        check.due("who moves", x.now(0), 0);
        check.due("what is open", x.now(3), Check.bits(1, 2, 3, 4, 5, 6));
        check.due("leaves", x.leaves(), 1);
        x.takes(3);
        check.due("the other one won", x.now(4), 1);
    }

    private static void twelveAreKnown() {
        check.sentence("(12 are known, older ones are lost)");
        TideDice x = new TideDice();
        x.throwsDice(1, 2, 3);
        for (int i = 0; i < 11; i++) {
            x.leaves();
        }
        check.due("twelve", x.count(4), 12);
        for (int more = 11; more >= 0; more--) {
            check.due("undo", x.undo(), more);
        }
        check.due("all twelve undone", x.now(2), NONE);
        check.due("undo, none", x.undo(), STATE);

        x.throwsDice(1, 2, 3);
        for (int i = 0; i < 12; i++) {
            x.leaves();
        }
        check.due("thirteen", x.count(4), 12);
        for (int more = 11; more >= 0; more--) {
            check.due("undo", x.undo(), more);
        }
        check.due("the oldest is lost", x.undo(), STATE);
        check.due("and lies", x.now(2), 123);
        check.due("no tides", x.player(0, 1) + x.player(1, 1), 0);

        // Behind UNDONE there is room again.
        for (int i = 0; i < 12; i++) {
            x.leaves();
        }
        x.undo();
        x.leaves();
        x.leaves();
        check.due("thirteen again", x.count(4), 12);
        for (int i = 0; i < 12; i++) {
            x.undo();
        }
        check.due("the oldest is lost again", x.player(1, 1), 1);
    }

    private static void whoseABerthIs() {
        check.sentence("Whose a BERTH is (NONE: nobody's). BAD.");
        TideDice x = Check.harbour("d1;d2;d9;b18;");
        berthed(x, 1, 2, 9, 1);
        x.throwsDice(1, 2, 9);
        x.takes(12);
        check.due("berth(1)", x.berth(1), 0);
        check.due("berth(12)", x.berth(12), 1);
        check.due("berth(2)", x.berth(2), NONE);
        check.due("berth(18)", x.berth(18), NONE);
        for (int b : new int[] {0, 19, -1, 33, 32 + 12, LEAST, MOST}) {
            check.due("berth(" + b + ")", x.berth(b), BAD);
        }
        x = new TideDice();
        x.throwsDice(1, 1, 1);
        for (int i = 0; i < 62; i++) {
            x.leaves();
        }
        for (int b = 1; b <= 12; b++) {
            check.due("berth(" + b + "), 31 tides each and 0 blind", x.berth(b), NONE);
        }
    }

    private static void playerAsked() {
        check.sentence("Of a PLAYER: 0 BERTHS (bits: BERTH 1 is bit 1), 1 TIDES, 2 whether BLIND, 3 RACE (NONE). BAD.");
        TideDice x = Check.harbour("b18;g9;");
        berthed(x, 6, 6, 6, 18);
        berthed(x, 1, 2, 3, 1);
        berthed(x, 1, 2, 3, 2);
        check.due("player(0, 0)", x.player(0, 0), Check.bits(18));
        check.due("player(1, 0)", x.player(1, 0), Check.bits(1, 2));
        check.due("player(1, 1)", x.player(1, 1), 0);
        check.due("player(0, 2)", x.player(0, 2), 0);
        check.due("player(0, 3)", x.player(0, 3), 8);
        check.due("player(1, 3)", x.player(1, 3), 7);
        for (int p : new int[] {-1, 2, LEAST, MOST}) {
            for (int what = -1; what <= 4; what++) {
                check.due("player(" + p + ", " + what + ")", x.player(p, what), BAD);
            }
        }
        for (int what : new int[] {-1, 4, LEAST, MOST}) {
            check.due("player(0, " + what + ")", x.player(0, what), BAD);
            check.due("player(1, " + what + ")", x.player(1, what), BAD);
        }
    }

    private static void raceOfAPlayer() {
        check.sentence("how many turns at least to GOAL (0: he has it)");
        TideDice x = wonByZero();
        check.due("he has it", x.player(0, 3), 0);
        check.due("the other one", x.player(1, 3), 1);
        check.sentence("there are not so many BERTHS that are free");
        x = Check.harbour("b3;g3;");
        check.due("three of three", x.player(1, 3), 3);
        berthed(x, 1, 2, 3, 1);
        check.due("three of two", x.player(1, 3), NONE);
        check.due("two of two", x.player(0, 3), 2);
        check.due("nine of three", Check.harbour("b3;g9;").player(0, 3), NONE);
        check.sentence("and that some THROW opens in some WIND");
        // 1 .. 7 in wind 0 and 18 .. 12 in wind 1, though these dice turn none.
        check.due("nine of fourteen", Check.harbour("d1;d2;d4;b18;g9;").player(0, 3), 9);
        // 8, 9, 17 in wind 0 and 10, 9, 1 in wind 1.
        check.due("five of five", Check.harbour("d8;d9;d9;b17;g5;").player(0, 3), 5);
        check.due("six of five", Check.harbour("d8;d9;d9;b17;g6;").player(0, 3), NONE);
        check.due("seven of six", Check.harbour("d1;d1;d1;b18;g7;").player(0, 3), NONE);
        check.due("six of six", Check.harbour("d1;d1;d1;b18;g6;").player(0, 3), 6);
        check.due("one of none", Check.harbour("d9;d9;d9;b8;g1;").player(0, 3), NONE);
    }

    private static void throwsRefused() {
        check.sentence("BAD (not PIPS of these DICE); STATE: one lies, somebody WON.");
        TideDice x = new TideDice();
        for (int pip : new int[] {0, 7, -1, LEAST, MOST}) {
            check.due("throwsDice(" + pip + ", 1, 2)", x.throwsDice(pip, 1, 2), BAD);
            check.due("throwsDice(1, " + pip + ", 2)", x.throwsDice(1, pip, 2), BAD);
            check.due("throwsDice(1, 2, " + pip + ")", x.throwsDice(1, 2, pip), BAD);
        }
        check.due("throwsDice(1, 2, 6)", x.throwsDice(1, 2, 6), Check.bits(1, 2, 3, 6, 7, 8, 9));
        check.due("one lies", x.throwsDice(1, 2, 6), STATE);
        check.due("one lies, BAD ahead", x.throwsDice(1, 2, 7), BAD);
        x = wonByZero();
        check.due("won", x.throwsDice(6, 6, 6), STATE);
        check.due("won, BAD ahead", x.throwsDice(6, 6, 7), BAD);
    }

    private static void takesRefused() {
        check.sentence("TAKEN: how many TIDES he gave. BAD; STATE: nothing lies, it is not OPEN, somebody WON.");
        TideDice x = new TideDice();
        check.due("nothing lies", x.takes(1), STATE);
        check.due("nothing lies, BAD ahead", x.takes(13), BAD);
        x.throwsDice(1, 2, 4);
        check.due("not open", x.takes(8), STATE);
        check.due("not open, the last berth", x.takes(12), STATE);
        for (int b : new int[] {0, 13, -1, 32 + 1, LEAST, MOST}) {
            check.due("takes(" + b + ")", x.takes(b), BAD);
        }
        x.takes(1);
        x.throwsDice(1, 2, 4);
        check.due("somebody's", x.takes(1), STATE);
        x.takes(2);
        x.throwsDice(1, 2, 4);
        check.due("his own", x.takes(1), STATE);
        x = wonByZero();
        check.due("won", x.takes(1), STATE);
        check.due("won, BAD ahead", x.takes(0), BAD);
    }

    private static void passesRefused() {
        check.sentence("PASSED: who moves then (NONE: somebody WON). STATE: nothing lies, something is OPEN, somebody WON.");
        TideDice x = Check.harbour("b3;");
        check.due("nothing lies", x.passes(), STATE);
        x.throwsDice(1, 5, 6);
        check.due("one is open", x.passes(), STATE);
        check.due("the throw lies still", x.now(2), 156);
        x.leaves();
        check.due("one that was left is open", x.passes(), STATE);
        x.takes(1);
        x.throwsDice(1, 5, 6);
        check.due("it is somebody's now", x.passes(), 1);
        check.due("won", wonByZero().passes(), STATE);
    }

    private static void leavesRefused() {
        check.sentence("LEFT: who moves then. STATE: nothing lies, somebody WON.");
        TideDice x = new TideDice();
        check.due("nothing lies", x.leaves(), STATE);
        x.throwsDice(1, 2, 4);
        check.due("leaves", x.leaves(), 1);
        check.due("leaves", x.leaves(), 0);
        x.takes(1);
        check.due("nothing lies any more", x.leaves(), STATE);
        check.due("won", wonByZero().leaves(), STATE);
    }

    private static void undoRefused() {
        check.sentence("UNDONE: how many more may be. STATE: none.");
        TideDice x = new TideDice();
        check.due("none", x.undo(), STATE);
        x.throwsDice(1, 2, 3);
        x.throwsDice(1, 2, 3);
        x.passes();
        x.takes(12);
        check.due("refused calls are none", x.undo(), 0);
        check.due("none", x.undo(), STATE);
        x.throwsDice(1, 2, 3);
        x.harbour();
        check.due("none behind a text", x.undo(), STATE);
    }

    private static void nowAsked() {
        check.sentence("0 who moves (NONE: somebody WON), 1 WIND, 2 the THROW (100 times DIE 0, 10 times 1, and 2; NONE), "
            + "3 what is OPEN (bits), 4 who WON (NONE)");
        TideDice x = Check.harbour("g1;");
        int[][] due = {{0, 0, NONE, 0, NONE, 0}, {0, 1, 661, Check.bits(7, 1, 12, 6), NONE, 0},
            {1, 1, 661, Check.bits(7, 1, 12, 6), NONE, -1}, {NONE, 1, NONE, 0, 1, -1}};
        for (int step = 0; step < due.length; step++) {
            if (step == 1) {
                x.throwsDice(6, 6, 1);
            } else if (step == 2) {
                x.leaves();
            } else if (step == 3) {
                x.takes(7);
            }
            for (int what = 0; what < 6; what++) {
                check.due("step " + step + ", now(" + what + ")", x.now(what), due[step][what]);
            }
            for (int what : new int[] {-1, 6, LEAST, MOST}) {
                check.due("step " + step + ", now(" + what + ")", x.now(what), NO);
            }
        }
    }

    private static void owed() {
        check.sentence("5 OWED (may be below 0: NO for BAD, always)");
        TideDice x = new TideDice();
        check.due("none", x.now(5), 0);
        x.throwsDice(1, 2, 3);
        x.leaves();
        check.due("below 0", x.now(5), -1);
        x.leaves();
        check.due("alike", x.now(5), 0);
        x.takes(6);
        berthed(x, 4, 5, 1, 9);
        check.due("above 0", x.now(5), 1);
        check.due("now(6)", x.now(6), NO);
    }
}
