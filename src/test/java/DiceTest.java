/** Promises 24 to 32: the third die, which dice were thrown, which beats which, KINDS, IMAGES, counts. */
final class DiceTest {
    private static final int NONE = TideDice.NONE, BAD = TideDice.BAD, STATE = TideDice.STATE, NO = TideDice.NO;
    private static final Check check = new Check();

    public static void main(String[] args) {
        third();
        threw();
        beats();
        rings();
        marks();
        marksRefused();
        images();
        imagesKeepWhatMayBeUndone();
        imagesKeepNothingElse();
        counts();
        check.end();
    }

    private static void third() {
        TideDice x = Check.harbour("d2 5;d3;d1 4 4 9;");
        check.due("third(2, 3, 3)", x.third(2, 3, 3), Check.bits(1, 4, 9));
        check.due("third(2, 3, 4)", x.third(2, 3, 4), Check.bits(1, 4));
        check.due("third(2, 3, 12)", x.third(2, 3, 12), Check.bits(9));
        check.due("third(2, 3, 8)", x.third(2, 3, 8), 0);
        check.due("third(5, 3, 12)", x.third(5, 3, 12), Check.bits(4, 9));
        int[][] bad = {{3, 3, 1}, {2, 2, 1}, {2, 3, 0}, {2, 3, 13}, {0, 3, 1}, {2, 3, 36},
            {Integer.MIN_VALUE, 3, 1}, {2, Integer.MAX_VALUE, 1}, {2, 3, Integer.MIN_VALUE}};
        for (int[] t : bad) {
            check.due("third, bad", x.third(t[0], t[1], t[2]), BAD);
        }
        x.throwsDice(2, 3, 1);
        x.takes(3);
        check.due("third, somebody's", x.third(2, 3, 3), Check.bits(1, 4, 9));
        // In wind 1 of twelve berths 9 is sum 4, 10 is sum 3; two alike do not turn it here.
        x = Check.harbour("d2 3;d3;d1 3 9;");
        x.throwsDice(3, 3, 1);
        check.due("wind", x.now(1), 1);
        check.due("third(2, 3, 9), in wind 1", x.third(2, 3, 9), Check.bits(1));
        check.due("third(3, 3, 10), not turned", x.third(3, 3, 10), Check.bits(1, 3, 9));
        check.due("third(3, 3, 3), not turned", x.third(3, 3, 3), 0);
    }

    private static void threw() {
        TideDice x = Check.harbour("d6 2;d5 1;d3 3;b18;");
        check.due("threw(1, 0)", x.threw(1, 0), 4);
        check.due("threw(1, 1), as pips are told", x.threw(1, 1), 613);
        check.due("threw(2, 1)", x.threw(2, 1), 253);
        check.due("threw(14, 0)", x.threw(14, 0), 2);
        check.due("threw(14, 1)", x.threw(14, 1), 653);
        check.due("threw(17, 0), none", x.threw(17, 0), 0);
        check.due("threw(17, 1), none", x.threw(17, 1), NONE);
        int[][] bad = {{0, 0}, {19, 0}, {1, 2}, {1, -1}, {33, 1}, {Integer.MAX_VALUE, 0}, {1, Integer.MIN_VALUE}};
        for (int[] pair : bad) {
            check.due("threw(" + pair[0] + ", " + pair[1] + ")", x.threw(pair[0], pair[1]), BAD);
        }
        x.throwsDice(6, 1, 3);
        x.takes(1);
        check.due("threw, somebody's", x.threw(1, 0), 4);
        x = Check.harbour("d1;d1 2;d2;b18;");
        check.due("threw(1, 0), two alike turn nothing", x.threw(1, 0), 2);
        x.throwsDice(1, 1, 2);
        check.due("threw(18, 0), in wind 1", x.threw(18, 0), 2);
        check.due("threw(15, 1), in wind 1", x.threw(15, 1), 112);
        check.due("threw(14, 1), in wind 1", x.threw(14, 1), 122);
        check.due("threw(1, 0), in wind 1", x.threw(1, 0), 0);
    }

    private static void beats() {
        TideDice x = Check.harbour("d1 4;d3;d3 3 5;");
        check.due("beats(0, 1, 0)", x.beats(0, 1, 0), 1);
        check.due("beats(0, 1, 1)", x.beats(0, 1, 1), 2);
        check.due("beats(2, 1, 0), alike is not more", x.beats(2, 1, 0), 1);
        check.due("beats(2, 1, 1)", x.beats(2, 1, 1), 3);
        check.due("beats(1, 2, 0)", x.beats(1, 2, 0), 0);
        check.due("beats(1, 2, 1), in least terms", x.beats(1, 2, 1), 1);
        check.due("beats(0, 2, 0)", x.beats(0, 2, 0), 1);
        check.due("beats(0, 2, 1)", x.beats(0, 2, 1), 3);
        int[][] bad = {{0, 0, 0}, {1, 1, 1}, {3, 0, 0}, {0, 3, 0}, {-1, 0, 0}, {0, -1, 0}, {0, 1, 2}, {0, 1, -1},
            {Integer.MAX_VALUE, 0, 0}, {0, Integer.MIN_VALUE, 0}, {0, 1, Integer.MAX_VALUE}};
        for (int[] t : bad) {
            check.due("beats, bad", x.beats(t[0], t[1], t[2]), BAD);
        }
    }

    private static void rings() {
        check.due("ring, 1", Check.harbour("d2 2 4 4 9 9;d1 1 6 6 8 8;d3 3 5 5 7 7;").ring(), 1);
        check.due("ring, 2", Check.harbour("d3 3 5 5 7 7;d1 1 6 6 8 8;d2 2 4 4 9 9;").ring(), 2);
        check.due("ring, at first", new TideDice().ring(), 0);
        check.due("ring, one after another", Check.harbour("d3;d2;d1;").ring(), 0);
        check.due("ring, the other way, but for one", Check.harbour("d1;d2;d3;").ring(), 0);
        // 0 beats 1 by one of two; 1 beats 2, 2 beats 0 by two of three.
        check.due("ring, half is not more", Check.harbour("d1 4;d3;d2 2 5;").ring(), 0);
        check.due("ring, half the other way", Check.harbour("d3;d1 4;d2 2 5;").ring(), 0);
        // As the ring of 1 above, but alike ones take 1's wins over 2 below a half.
        check.due("ring, alike ones", Check.harbour("d2 2 4 4 9 9;d1 1 5 5 7 7;d3 3 5 5 7 7;").ring(), 0);
    }

    private static void marks() {
        TideDice x = Check.harbour("d1 2 3 3;d8 9;d9;b3;g3;");
        long trace = 0;
        int[] tolls = {1, 11, 101, 1011, 10101, 100001};
        // Of the eight throws those with 9 9 turn the wind: 3 is open by 389 twice, by 199 once.
        int[] first = {3, 6, 3, 12, 3, 3};
        for (int kind = 0; kind < 6; kind++) {
            check.due("mark(" + kind + ", 3)", x.mark(kind, 3), first[kind]);
            trace += tolls[kind];
            check.due("trace behind mark(" + kind + ", 3)", x.trace(), trace);
        }
        x.throwsDice(1, 9, 9);
        x.leaves();
        x.leaves();
        x.leaves();
        x.takes(3);
        check.due("wind", x.now(1), 1);
        // In wind 1 berth 1 is open by 389 twice, by 199 once.
        int[] later = {1, 4, 0, 8, 7, 4};
        for (int kind = 0; kind < 6; kind++) {
            check.due("mark(" + kind + ", 1), later", x.mark(kind, 1), later[kind]);
        }
        check.due("mark(1, 3), somebody's", x.mark(1, 3), 3);
        check.due("trace, later", x.trace(), 2 * trace + 11);
        x.undo();
        check.due("trace is not undone", x.trace(), 2 * trace + 11);
    }

    private static void marksRefused() {
        TideDice x = new TideDice();
        int[][] bad = {{6, 1}, {-1, 1}, {0, 0}, {0, 13}, {5, -1}, {Integer.MIN_VALUE, 1}, {1, Integer.MAX_VALUE}};
        for (int[] pair : bad) {
            check.due("mark(" + pair[0] + ", " + pair[1] + ")", x.mark(pair[0], pair[1]), NO);
        }
        check.due("trace, refused", x.trace(), 0);
    }

    private static void images() {
        TideDice x = new TideDice();
        for (int image : new int[] {-1, 2, Integer.MIN_VALUE, Integer.MAX_VALUE}) {
            check.due("keep(" + image + ")", x.keep(image), BAD);
            check.due("back(" + image + ")", x.back(image), BAD);
        }
        check.due("back(0), none kept", x.back(0), STATE);
        check.due("keep(0)", x.keep(0), 0);
        check.due("back(1), none kept", x.back(1), STATE);
        x.throwsDice(3, 3, 3);
        x.takes(3);
        x.throwsDice(1, 1, 2);
        x.leaves();
        x.leaves();
        check.due("keep(1)", x.keep(1), 1);
        x.takes(12);
        check.due("berth(12)", x.berth(12), 1);
        check.due("who moves, 0 being blind", x.now(0), 1);
        for (int again = 0; again < 2; again++) {
            check.due("back(1)", x.back(1), 1);
            check.due("berth(12)", x.berth(12), NONE);
            check.due("berth(3)", x.berth(3), 0);
            check.due("throw", x.now(2), 112);
            check.due("wind", x.now(1), 1);
            check.due("blind", x.player(0, 2), 1);
            check.due("tides of 0", x.player(0, 1), 1);
            check.due("tides of 1", x.player(1, 1), 1);
            x.takes(9);
        }
        check.due("back(0)", x.back(0), 0);
        check.due("nothing berthed", x.player(0, 0) | x.player(1, 0), 0);
        check.due("wind at first", x.now(1), 0);
        check.due("nothing lies", x.now(2), NONE);
        check.due("keep(1) anew", x.keep(1), 0);
        x.throwsDice(1, 2, 3);
        x.back(1);
        check.due("as kept anew", x.now(2), NONE);
    }

    private static void imagesKeepWhatMayBeUndone() {
        TideDice x = new TideDice();
        x.throwsDice(1, 2, 3);
        x.leaves();
        x.keep(0);
        x.undo();
        x.undo();
        x.throwsDice(4, 5, 6);
        for (int i = 0; i < 12; i++) {
            x.leaves();
        }
        x.back(0);
        check.due("count(4)", x.count(4), 2);
        check.due("undo()", x.undo(), 1);
        check.due("throw", x.now(2), 123);
        check.due("who moves", x.now(0), 0);
        check.due("undo()", x.undo(), 0);
        check.due("nothing lies", x.now(2), NONE);
    }

    private static void imagesKeepNothingElse() {
        TideDice x = new TideDice();
        x.chalks(1, 1);
        x.keep(0);
        x.chalks(2, 2);
        x.mark(0, 1);
        x.type(100);
        x.back(0);
        check.due("chalk stays", x.count(3), 2);
        check.due("trace stays", x.trace(), 1);
        check.due("text stays", x.count(5), 1);
    }

    private static void counts() {
        TideDice x = Check.harbour("d1 2;d3;b7;g5;");
        x.chalks(1, 1);
        x.throwsDice(1, 3, 4);
        x.leaves();
        x.type(1);
        x.type(2);
        x.type(3);
        int[] due = {7, 5, 12, 1, 2, 3};
        for (int what = 0; what < due.length; what++) {
            check.due("count(" + what + ")", x.count(what), due[what]);
        }
        for (int what : new int[] {-1, 6, Integer.MIN_VALUE, Integer.MAX_VALUE}) {
            check.due("count(" + what + ")", x.count(what), BAD);
        }
    }
}
