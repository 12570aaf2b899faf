/** Promises 6 to 13: whose BERTHS are, PLAYERS, what is done and undone, NOW. */
final class PlayTest {
    private static final int NONE = TideDice.NONE, BAD = TideDice.BAD, STATE = TideDice.STATE;
    private static final Check check = new Check();

    public static void main(String[] args) {
        berthsAndPlayers();
        races();
        throwing();
        windTurnsByJustTwoAlike();
        taking();
        takingRefused();
        passing();
        leaving();
        blindnessEndsWhereNothingLies();
        winning();
        whoIsBlindStaysSoBehindAWin();
        undoing();
        twelveAreKnown();
        nowIsAsked();
        check.end();
    }

    private static void berthsAndPlayers() {
        TideDice x = new TideDice();
        x.throwsDice(1, 2, 4);
        x.takes(7);
        x.throwsDice(1, 2, 4);
        x.takes(3);
        check.due("berth(7)", x.berth(7), 0);
        check.due("berth(3)", x.berth(3), 1);
        check.due("berth(1)", x.berth(1), NONE);
        check.due("berth(12)", x.berth(12), NONE);
        for (int b : new int[] {0, 13, -1, 33, 39, Integer.MIN_VALUE, Integer.MAX_VALUE}) {
            check.due("berth(" + b + ")", x.berth(b), BAD);
        }
        check.due("player(0, 0)", x.player(0, 0), Check.bits(7));
        check.due("player(1, 0)", x.player(1, 0), Check.bits(3));
        int[][] bad = {{2, 0}, {-1, 0}, {0, 4}, {1, -1}, {Integer.MIN_VALUE, 0}, {0, Integer.MAX_VALUE}};
        for (int[] pair : bad) {
            check.due("player(" + pair[0] + ", " + pair[1] + ")", x.player(pair[0], pair[1]), BAD);
        }
    }

    private static void races() {
        // Sums 1, 2, 3 alone, so of five berths 1, 2, 3 in wind 0 and 5, 4, 3 in wind 1.
        TideDice x = Check.harbour("d1;d1;d1;b5;g3;");
        check.due("race at first", x.player(0, 3), 3);
        x.throwsDice(1, 1, 1);
        x.takes(1);
        check.due("race of 0", x.player(0, 3), 2);
        check.due("race of 1", x.player(1, 3), 3);
        x.throwsDice(1, 1, 1);
        x.takes(2);
        check.due("race of 0, three free", x.player(0, 3), 2);
        x.throwsDice(1, 1, 1);
        x.takes(3);
        check.due("race of 0, two free", x.player(0, 3), 2);
        check.due("race of 1, two free", x.player(1, 3), 1);
        // Berths 4 .. 15 of 18 are free, but no throw opens them.
        x = Check.harbour("d1;d1;d1;b18;g7;");
        check.due("race, six can be opened", x.player(1, 3), NONE);
        x = Check.harbour("d1;d1;d1;b18;g6;");
        check.due("race, just enough", x.player(1, 3), 6);
        x.throwsDice(1, 1, 1);
        x.takes(2);
        check.due("race, one is somebody's", x.player(1, 3), NONE);
        check.due("race of whose it is", x.player(0, 3), 5);
    }

    private static void throwing() {
        TideDice x = Check.harbour("d 2 9;d 3;");
        int[][] bad = {{1, 3, 1}, {2, 2, 1}, {2, 3, 7}, {2, 3, 0}, {3, 2, 1}, {-2, 3, 1},
            {Integer.MAX_VALUE, 3, 1}, {2, Integer.MIN_VALUE, 1}, {2, 3, Integer.MAX_VALUE}};
        for (int[] t : bad) {
            check.due("throwsDice, not pips", x.throwsDice(t[0], t[1], t[2]), BAD);
        }
        check.due("nothing lies behind BAD", x.now(2), NONE);
        check.due("nothing to undo behind BAD", x.count(4), 0);
        check.due("throwsDice(9, 3, 1)", x.throwsDice(9, 3, 1), Check.bits(9, 3, 1, 12, 10, 4));
        check.due("now(2)", x.now(2), 931);
        check.due("throwsDice, one lies", x.throwsDice(2, 3, 1), STATE);
        check.due("throwsDice, BAD ahead of STATE", x.throwsDice(1, 3, 1), BAD);
        check.due("now(2), as it was", x.now(2), 931);
        check.due("count(4), as it was", x.count(4), 1);
    }

    private static void windTurnsByJustTwoAlike() {
        int[][] twoAlike = {{1, 1, 2}, {1, 2, 1}, {2, 1, 1}};
        for (int[] t : twoAlike) {
            TideDice x = new TideDice();
            int open = x.throwsDice(t[0], t[1], t[2]);
            check.due("open by two alike", open, Check.bits(12, 11, 10, 9));
            check.due("wind by two alike", x.now(1), 1);
            check.due("not blind by two alike", x.player(0, 2), 0);
            x.takes(12);
            x.throwsDice(t[0], t[1], t[2]);
            check.due("wind by two alike again", x.now(1), 0);
            check.due("open in wind 0 again", x.now(3), Check.bits(1, 2, 3, 4));
        }
        TideDice x = new TideDice();
        check.due("open by three alike", x.throwsDice(4, 4, 4), Check.bits(4, 8, 12));
        check.due("wind by three alike", x.now(1), 0);
        check.due("blind by three alike", x.player(0, 2), 1);
        check.due("the other one isn't", x.player(1, 2), 0);
        x = new TideDice();
        check.due("sums beyond the berths", x.throwsDice(6, 5, 4), Check.bits(4, 5, 6, 9, 10, 11));
        check.due("wind, none alike", x.now(1), 0);
        x = Check.harbour("b 3;");
        check.due("in wind 1, sums beyond", x.throwsDice(3, 3, 4), Check.bits(1));
    }

    private static void taking() {
        TideDice x = new TideDice();
        x.throwsDice(1, 2, 4);
        check.due("takes(4), the other has none", x.takes(4), 0);
        check.due("who moves", x.now(0), 1);
        check.due("the throw is gone", x.now(2), NONE);
        check.due("nothing is open", x.now(3), 0);
        check.due("throwsDice(1, 2, 4)", x.throwsDice(1, 2, 4), Check.bits(1, 2, 3, 5, 6, 7));
        check.due("takes(3), below the other's", x.takes(3), 0);
        x.throwsDice(1, 2, 4);
        check.due("takes(5), above the other's", x.takes(5), 1);
        check.due("tides of the other", x.player(1, 1), 1);
        check.due("tides of who took", x.player(0, 1), 0);
        check.due("owed", x.now(5), -1);
        x.throwsDice(1, 2, 6);
        check.due("takes(9), above two", x.takes(9), 2);
        check.due("open, but 3, 9 (his) and 4, 5 (mine)", x.throwsDice(4, 5, 3), Check.bits(7, 8, 12));
        x.undo();
        check.due("owed", x.now(5), 1);
        check.due("who moves", x.now(0), 0);
    }

    private static void takingRefused() {
        TideDice x = new TideDice();
        check.due("takes, nothing lies", x.takes(3), STATE);
        x.throwsDice(1, 2, 4);
        for (int b : new int[] {0, 13, -1, 35, Integer.MIN_VALUE, Integer.MAX_VALUE}) {
            check.due("takes(" + b + ")", x.takes(b), BAD);
        }
        check.due("takes, not open", x.takes(8), STATE);
        x.takes(3);
        x.throwsDice(1, 2, 4);
        check.due("takes, somebody's", x.takes(3), STATE);
        check.due("nothing changed", x.player(1, 0), 0);
        check.due("count(4)", x.count(4), 3);
    }

    private static void passing() {
        TideDice x = Check.harbour("b 3;");
        check.due("passes, nothing lies", x.passes(), STATE);
        x.throwsDice(1, 5, 6);
        check.due("passes, something is open", x.passes(), STATE);
        x.takes(1);
        check.due("throwsDice, nothing open", x.throwsDice(4, 5, 6), 0);
        check.due("passes()", x.passes(), 0);
        check.due("the throw is gone", x.now(2), NONE);
        check.due("no tides of 0", x.player(0, 1), 0);
        check.due("no tides of 1", x.player(1, 1), 0);
        check.due("throwsDice, it is somebody's", x.throwsDice(1, 5, 6), 0);
        check.due("passes()", x.passes(), 1);
    }

    private static void leaving() {
        TideDice x = new TideDice();
        check.due("leaves, nothing lies", x.leaves(), STATE);
        x.throwsDice(1, 2, 4);
        check.due("leaves()", x.leaves(), 1);
        check.due("the throw lies", x.now(2), 124);
        check.due("tides of the other", x.player(1, 1), 1);
        check.due("tides of who left", x.player(0, 1), 0);
        check.due("throwsDice, one lies", x.throwsDice(1, 2, 4), STATE);
        check.due("leaves() again", x.leaves(), 0);
        check.due("tides of the first", x.player(0, 1), 1);
        check.due("takes what was left", x.takes(7), 0);
        check.due("whose it is", x.berth(7), 0);
        check.due("who moves", x.now(0), 1);
        x.throwsDice(3, 3, 1);
        check.due("wind turned", x.now(1), 1);
        x.leaves();
        check.due("leaving turns no wind", x.now(1), 1);
    }

    private static void blindnessEndsWhereNothingLies() {
        TideDice x = new TideDice();
        x.throwsDice(2, 2, 2);
        x.takes(2);
        check.due("0 is blind, 1 moves", x.now(0), 1);
        x.throwsDice(1, 2, 4);
        check.due("leaves, the other is blind", x.leaves(), 0);
        check.due("he stays blind", x.player(0, 2), 1);
        check.due("leaves back", x.leaves(), 1);
        x.takes(1);
        check.due("the same one moves again", x.now(0), 1);
        check.due("not blind any more", x.player(0, 2), 0);
        x.throwsDice(1, 2, 4);
        x.takes(3);
        check.due("and then the other", x.now(0), 0);

        x = Check.harbour("b 3;");
        x.throwsDice(4, 4, 4);
        check.due("passes, being blind oneself", x.passes(), 1);
        x.throwsDice(5, 5, 5);
        check.due("both are blind", x.player(0, 2) + x.player(1, 2), 2);
        check.due("passes, the other is blind", x.passes(), 1);
        check.due("0 sees", x.player(0, 2), 0);
        check.due("1 stays blind", x.player(1, 2), 1);
        x.throwsDice(4, 5, 6);
        check.due("passes", x.passes(), 0);
        x.throwsDice(4, 5, 6);
        check.due("passes, 1 is blind", x.passes(), 0);
        check.due("1 sees", x.player(1, 2), 0);
    }

    private static TideDice wonByOne() {
        TideDice x = Check.harbour("g 1;");
        x.throwsDice(2, 2, 2);
        x.leaves();
        x.takes(6);
        return x;
    }

    private static void winning() {
        TideDice x = wonByOne();
        check.due("now(4)", x.now(4), 1);
        check.due("now(0)", x.now(0), NONE);
        check.due("now(2)", x.now(2), NONE);
        check.due("now(3)", x.now(3), 0);
        check.due("race of who has it", x.player(1, 3), 0);
        check.due("race of the other", x.player(0, 3), 1);
        check.due("throwsDice, won", x.throwsDice(1, 1, 1), STATE);
        check.due("throwsDice, BAD ahead", x.throwsDice(0, 1, 1), BAD);
        check.due("takes, won", x.takes(1), STATE);
        check.due("takes, BAD ahead", x.takes(0), BAD);
        check.due("passes, won", x.passes(), STATE);
        check.due("leaves, won", x.leaves(), STATE);
        check.due("keep, won", x.keep(0), NONE);
        check.due("undo, won", x.undo(), 2);
        check.due("now(4), undone", x.now(4), NONE);
        check.due("now(0), undone", x.now(0), 1);
        check.due("now(2), undone", x.now(2), 222);
        check.due("back, won", x.back(0), NONE);

        x = new TideDice();
        for (int b = 1; b <= 6; b++) {
            x.throwsDice(1, 2, 3);
            x.takes(b);
        }
        check.due("three each, nobody won", x.now(4), NONE);
        x.throwsDice(5, 6, 4);
        x.takes(9);
        check.due("four, won", x.now(4), 0);
    }

    private static void whoIsBlindStaysSoBehindAWin() {
        TideDice x = wonByOne();
        check.due("blind behind a win", x.player(0, 2), 1);
        x = Check.harbour("g 1;");
        x.throwsDice(2, 2, 2);
        x.takes(6);
        check.due("blind himself behind a win", x.player(0, 2), 1);
    }

    private static void undoing() {
        TideDice x = new TideDice();
        check.due("undo, none", x.undo(), STATE);
        x.throwsDice(3, 3, 3);
        x.leaves();
        x.takes(9);
        x.throwsDice(1, 1, 2);
        x.takes(12);
        x.chalks(1, 1);
        check.due("who moves", x.now(0), 0);
        check.due("undo takes(12)", x.undo(), 4);
        check.due("berth(12)", x.berth(12), NONE);
        check.due("the throw lies", x.now(2), 112);
        check.due("who moves", x.now(0), 1);
        check.due("tides of the other", x.player(0, 1), 0);
        check.due("undo throwsDice(1, 1, 2)", x.undo(), 3);
        check.due("wind is back", x.now(1), 0);
        check.due("nothing lies", x.now(2), NONE);
        check.due("who moves", x.now(0), 1);
        check.due("0 sees", x.player(0, 2), 0);
        check.due("undo takes(9)", x.undo(), 2);
        check.due("berth(9)", x.berth(9), NONE);
        check.due("0 is blind again", x.player(0, 2), 1);
        check.due("undo leaves()", x.undo(), 1);
        check.due("who moves", x.now(0), 0);
        check.due("tides of 1", x.player(1, 1), 0);
        check.due("undo throwsDice(3, 3, 3)", x.undo(), 0);
        check.due("0 is not blind", x.player(0, 2), 0);
        check.due("undo, none left", x.undo(), STATE);
        check.due("chalk is not undone", x.count(3), 1);

        x = Check.harbour("b 3;");
        x.throwsDice(4, 5, 6);
        x.passes();
        check.due("undo passes()", x.undo(), 1);
        check.due("the throw lies", x.now(2), 456);
        check.due("who moves", x.now(0), 0);
    }

    private static void twelveAreKnown() {
        TideDice x = new TideDice();
        x.throwsDice(1, 2, 3);
        for (int i = 1; i <= 14; i++) {
            x.leaves();
            check.due("count(4)", x.count(4), Math.min(12, i + 1));
        }
        check.due("tides of 1", x.player(1, 1), 7);
        for (int left = 11; left >= 0; left--) {
            check.due("undo()", x.undo(), left);
        }
        check.due("undo, older ones are lost", x.undo(), STATE);
        check.due("tides of 1, two left", x.player(1, 1), 1);
        check.due("tides of 0, two left", x.player(0, 1), 1);
        check.due("the throw lies", x.now(2), 123);
        x.leaves();
        check.due("undo of a new one", x.undo(), 0);
    }

    private static void nowIsAsked() {
        TideDice x = new TideDice();
        for (int what : new int[] {-1, 6, Integer.MIN_VALUE, Integer.MAX_VALUE}) {
            check.due("now(" + what + ")", x.now(what), TideDice.NO);
        }
        x.throwsDice(6, 6, 1);
        check.due("now(0)", x.now(0), 0);
        check.due("now(1)", x.now(1), 1);
        check.due("now(2)", x.now(2), 661);
        check.due("now(3)", x.now(3), Check.bits(7, 12, 1, 6));
        check.due("now(4)", x.now(4), NONE);
        x.leaves();
        check.due("now(5), below 0", x.now(5), -1);
    }
}
