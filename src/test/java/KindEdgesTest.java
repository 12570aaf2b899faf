/** The edges that part 4 of the Terms and promises 28 to 32 name, a test for each sentence. */
final class KindEdgesTest {
    private static final int NONE = TideDice.NONE, BAD = TideDice.BAD, STATE = TideDice.STATE, NO = TideDice.NO;
    private static final int LEAST = Integer.MIN_VALUE, MOST = Integer.MAX_VALUE;
    private static final Check check = new Check();

    public static void main(String[] args) {
        berthItsNumber();
        shipAndThrows();
        quayLessBerths();
        coalTimesTwo();
        lentAndWind();
        pilotAndTides();
        marksRefused();
        traceAsOftenAsAsked();
        traceIsNeitherToldNorKept();
        imagesKeepNow();
        imagesKeepUndone();
        imagesKeepNothingElse();
        imagesApart();
        imagesOfAWin();
        keepRefused();
        backRefused();
        readAnew();
        counts();
        countsRefused();
        check.end();
    }

    /** Eight throws: 189, 289, 389 twice; 199, 299, 399 twice turn the wind. */
    private static final String HARBOUR = "d1 2 3 3;d8 9;d9;b3;g3;";

    private static void berthItsNumber() {
        check.sentence("BERTH its number (1).");
        TideDice x = Check.harbour("b18;");
        check.due("mark(0, 1)", x.mark(0, 1), 1);
        check.due("mark(0, 18)", x.mark(0, 18), 18);
        check.due("trace", x.trace(), 2);
    }

    private static void shipAndThrows() {
        check.sentence("SHIP up, and by how many of all THROWS it would be OPEN NOW (10).");
        TideDice x = Check.harbour(HARBOUR);
        check.due("mark(1, 3), by 389 twice, 199", x.mark(1, 3), 3 + 3);
        check.due("mark(1, 1), by 189, 399 twice", x.mark(1, 1), 1 + 3);
        check.due("trace", x.trace(), 22);
        x.throwsDice(3, 8, 9);
        x.takes(3);
        check.due("mark(1, 3), somebody's", x.mark(1, 3), 3);
        x = Check.harbour("d9;d9;d9;b8;");
        check.due("mark(1, 8), never open", x.mark(1, 8), 8);
    }

    private static void quayLessBerths() {
        check.sentence("QUAY up less how many BERTHS are somebody's (100).");
        TideDice x = new TideDice();
        check.due("mark(2, 1), none is", x.mark(2, 1), 1);
        for (int b = 1; b <= 3; b++) {
            x.throwsDice(1, 2, 3);
            x.takes(b);
            check.due("mark(2, 1)", x.mark(2, 1), 1 - b);
        }
        check.due("mark(2, 12)", x.mark(2, 12), 9);
        check.due("trace", x.trace(), 5 * 101);
    }

    private static void coalTimesTwo() {
        check.sentence("COAL up times 2 (1000).");
        TideDice x = Check.harbour(HARBOUR);
        check.due("mark(3, 3)", x.mark(3, 3), 2 * (3 + 3));
        check.due("trace", x.trace(), 1011);
        check.due("mark(3, 2), by 289, 299", x.mark(3, 2), 2 * (2 + 2));
    }

    private static void lentAndWind() {
        check.sentence("LENT up, and WIND times 7 (10000).");
        TideDice x = Check.harbour(HARBOUR);
        check.due("mark(4, 3), wind 0", x.mark(4, 3), 3);
        check.due("trace", x.trace(), 10101);
        x.throwsDice(1, 9, 9);
        check.due("mark(4, 3), wind 1", x.mark(4, 3), 10);
        x.takes(3);
        check.due("mark(4, 3), one somebody's", x.mark(4, 3), 9);
        x.throwsDice(2, 9, 9);
        check.due("mark(4, 3), wind 0 again", x.mark(4, 3), 2);
    }

    private static void pilotAndTides() {
        check.sentence("PILOT up, and TIDES of both (100000).");
        TideDice x = new TideDice();
        check.due("mark(5, 12), no tides", x.mark(5, 12), 12);
        check.due("trace", x.trace(), 100001);
        x.throwsDice(1, 2, 3);
        x.leaves();
        check.due("mark(5, 12), of 1", x.mark(5, 12), 13);
        x.leaves();
        check.due("mark(5, 12), of both", x.mark(5, 12), 14);
        check.due("mark(5, 1)", x.mark(5, 1), 3);
    }

    private static void marksRefused() {
        check.sentence("MARK. NO: BAD.");
        TideDice x = new TideDice();
        for (int kind : new int[] {-1, 6, LEAST, MOST}) {
            check.due("mark(" + kind + ", 1)", x.mark(kind, 1), NO);
            check.due("mark(" + kind + ", 0)", x.mark(kind, 0), NO);
        }
        for (int kind = 0; kind < 6; kind++) {
            for (int b : new int[] {0, 13, -1, 33, LEAST, MOST}) {
                check.due("mark(" + kind + ", " + b + ")", x.mark(kind, b), NO);
            }
        }
        check.due("trace, none asked", x.trace(), 0);
        check.due("mark(5, 12)", x.mark(5, 12), 12);
    }

    private static void traceAsOftenAsAsked() {
        check.sentence("numbers in brackets come to THE TRACE as often as mark() asks that body");
        int[] tolls = {1, 11, 101, 1011, 10101, 100001};
        TideDice x = new TideDice();
        check.due("trace, none asked", x.trace(), 0);
        check.due("trace, asked again", x.trace(), 0);
        long due = 0;
        for (int again = 0; again < 3; again++) {
            for (int kind = 0; kind < 6; kind++) {
                x.mark(kind, 1);
                due += tolls[kind];
                check.due("trace behind mark(" + kind + ", 1)", x.trace(), due);
            }
        }
        x = new TideDice();
        for (int i = 0; i < 510; i++) {
            x.mark(5, 1);
        }
        check.due("trace of 510", x.trace(), 51000510L);
        // What else counts throws of a berth asks no body.
        x = new TideDice();
        x.chance(1, 0);
        x.chalks(1, 1);
        x.wrong();
        x.bet();
        x.odds(0, 0);
        check.due("trace, odds asked", x.trace(), 0);
    }

    private static void traceIsNeitherToldNorKept() {
        check.sentence("THE TRACE.");
        TideDice x = new TideDice();
        x.keep(0);
        x.throwsDice(1, 2, 3);
        x.mark(1, 1);
        x.undo();
        check.due("trace behind undo()", x.trace(), 11);
        x.back(0);
        check.due("trace behind back()", x.trace(), 11);
        x.harbour();
        check.due("trace behind harbour()", x.trace(), 11);
    }

    private static void imagesKeepNow() {
        check.sentence("keep NOW (whose BERTHS are, TIDES, BLIND, WIND, the THROW, who moves, what may be UNDONE)");
        TideDice x = new TideDice();
        x.throwsDice(3, 3, 3);
        x.takes(3);
        x.throwsDice(1, 1, 2);
        x.leaves();
        x.leaves();
        int[] kept = state(x);
        check.due("keep(0)", x.keep(0), 1);
        isState("kept", x, kept);
        x.takes(12);
        x.throwsDice(6, 6, 1);
        x.leaves();
        for (int again = 0; again < 2; again++) {
            check.due("back(0)", x.back(0), 1);
            isState("back", x, kept);
            x.takes(9);
            x.throwsDice(4, 4, 4);
        }
    }

    private static int[] state(TideDice x) {
        int[] found = new int[6 + 6 + 12 + 1];
        int n = 0;
        for (int what = 0; what < 6; what++) {
            found[n++] = x.now(what);
        }
        for (int what = 0; what < 3; what++) {
            found[n++] = x.player(0, what);
            found[n++] = x.player(1, what);
        }
        for (int b = 1; b <= 12; b++) {
            found[n++] = x.berth(b);
        }
        found[n] = x.count(4);
        return found;
    }

    private static void isState(String when, TideDice x, int[] due) {
        int[] found = state(x);
        for (int i = 0; i < due.length; i++) {
            check.due(when + ", part " + i, found[i], due[i]);
        }
    }

    private static void imagesKeepUndone() {
        check.sentence("what may be UNDONE");
        TideDice x = new TideDice();
        check.due("keep(0), nothing to undo", x.keep(0), 0);
        x.throwsDice(1, 2, 3);
        for (int i = 0; i < 11; i++) {
            x.leaves();
        }
        x.keep(1);
        for (int i = 0; i < 12; i++) {
            x.leaves();
        }
        x.back(1);
        check.due("count(4), twelve", x.count(4), 12);
        check.due("undo", x.undo(), 11);
        check.due("tides of 1", x.player(1, 1), 5);
        for (int i = 0; i < 11; i++) {
            x.undo();
        }
        check.due("nothing lies", x.now(2), NONE);
        check.due("undo, none", x.undo(), STATE);
        x.throwsDice(4, 5, 6);
        x.back(1);
        check.due("the image has them still", x.count(4), 12);
        check.due("undo", x.undo(), 11);
        x.back(0);
        check.due("undo, nothing was to be", x.undo(), STATE);
    }

    private static void imagesKeepNothingElse() {
        check.sentence("nothing else");
        TideDice x = new TideDice();
        x.chalks(1, 1);
        x.type('b');
        x.keep(0);
        x.chalks(2, 2);
        x.type('5');
        x.type(';');
        x.mark(0, 1);
        x.back(0);
        check.due("chalk", x.count(3), 2);
        check.due("text", x.count(5), 3);
        check.due("trace", x.trace(), 1);
        check.due("the text tells", x.harbour(), 1);
        check.due("berths", x.count(0), 5);
    }

    private static void imagesApart() {
        check.sentence("IMAGES 0, 1");
        TideDice x = new TideDice();
        x.throwsDice(1, 2, 3);
        x.keep(0);
        x.leaves();
        x.keep(1);
        x.takes(6);
        check.due("back(0)", x.back(0), 0);
        check.due("back(1)", x.back(1), 1);
        check.due("back(0) again", x.back(0), 0);
        check.due("tides", x.player(1, 1), 0);
        x.takes(1);
        x.keep(0);
        check.due("back(1), kept of old", x.back(1), 1);
        check.due("berth(1)", x.berth(1), NONE);
        check.due("back(0), kept anew", x.back(0), 1);
        check.due("berth(1)", x.berth(1), 0);
        // What goes back is a copy: to go on does not change the image.
        x.throwsDice(4, 5, 6);
        x.takes(4);
        x.undo();
        x.undo();
        x.back(0);
        check.due("berth(4)", x.berth(4), NONE);
        check.due("count(4)", x.count(4), 2);
    }

    private static void imagesOfAWin() {
        check.sentence("An IMAGE is kept: who moves (NONE: somebody WON). BAD.");
        TideDice x = Check.harbour("g1;");
        check.due("keep(0)", x.keep(0), 0);
        x.throwsDice(1, 2, 3);
        x.leaves();
        check.due("keep(0), 1 moves", x.keep(0), 1);
        x.takes(3);
        check.due("keep(1), won", x.keep(1), NONE);
        check.sentence("All of that becomes as an IMAGE has it: who moves (NONE: somebody WON).");
        check.due("back(0)", x.back(0), 1);
        check.due("nobody won", x.now(4), NONE);
        check.due("back(1), won", x.back(1), NONE);
        check.due("who won", x.now(4), 1);
        check.due("throwsDice, won", x.throwsDice(1, 2, 3), STATE);
        check.due("undo, won", x.undo(), 2);
    }

    private static void keepRefused() {
        check.sentence("An IMAGE is kept: who moves (NONE: somebody WON). BAD.");
        TideDice x = new TideDice();
        for (int image : new int[] {-1, 2, LEAST, MOST}) {
            check.due("keep(" + image + ")", x.keep(image), BAD);
        }
        check.due("back(0), none kept by these", x.back(0), STATE);
        check.due("back(1), none kept by these", x.back(1), STATE);
    }

    private static void backRefused() {
        check.sentence("BAD; STATE: none was kept.");
        TideDice x = new TideDice();
        for (int image : new int[] {-1, 2, LEAST, MOST}) {
            check.due("back(" + image + ")", x.back(image), BAD);
        }
        x.throwsDice(1, 2, 3);
        check.due("back(0)", x.back(0), STATE);
        check.due("back(1)", x.back(1), STATE);
        check.due("the throw lies still", x.now(2), 123);
        x.keep(1);
        check.due("back(0), the other was", x.back(0), STATE);
        check.due("back(1)", x.back(1), 0);
    }

    private static void readAnew() {
        check.sentence("Read anew: as told, nothing thrown, nothing CHALKED or to be UNDONE, IMAGES are gone.");
        for (String text : new String[] {"", "b5;", "d1;d1;d1;b3;g1;"}) {
            TideDice x = new TideDice();
            x.throwsDice(2, 2, 2);
            x.takes(2);
            x.throwsDice(1, 1, 3);
            x.leaves();
            x.keep(0);
            x.keep(1);
            x.chalks(1, 1);
            Check.type(x, text);
            check.isTrue("harbour of '" + text + "'", x.harbour() >= 0);
            int[] first = {0, 0, NONE, 0, NONE, 0};
            for (int what = 0; what < 6; what++) {
                check.due("now(" + what + ")", x.now(what), first[what]);
            }
            for (int what = 0; what < 3; what++) {
                check.due("player(0, " + what + ")", x.player(0, what), 0);
                check.due("player(1, " + what + ")", x.player(1, what), 0);
            }
            check.due("chalk", x.count(3), 0);
            check.due("wrong", x.wrong(), 0);
            check.due("to be undone", x.count(4), 0);
            check.due("undo", x.undo(), STATE);
            check.due("back(0)", x.back(0), STATE);
            check.due("back(1)", x.back(1), STATE);
        }
    }

    private static void counts() {
        check.sentence("0 BERTHS, 1 GOAL, 2 all THROWS, 3 CHALKED, 4 how many may be UNDONE, 5 bytes of THE TEXT.");
        TideDice x = new TideDice();
        int[] first = {12, 4, 216, 0, 0, 0};
        for (int what = 0; what < 6; what++) {
            check.due("count(" + what + "), at first", x.count(what), first[what]);
        }
        x = Check.harbour("d1;d2 3;d4 5 6;b18;g9;");
        x.throwsDice(1, 2, 4);
        for (int i = 0; i < 20; i++) {
            x.leaves();
            x.chalks(1, 1);
        }
        for (int i = 0; i < 130; i++) {
            x.type(32);
        }
        int[] full = {18, 9, 6, 6, 12, 120};
        for (int what = 0; what < 6; what++) {
            check.due("count(" + what + "), full", x.count(what), full[what]);
        }
        x.undo();
        x.wipes();
        x.clear();
        int[] later = {18, 9, 6, 0, 11, 0};
        for (int what = 0; what < 6; what++) {
            check.due("count(" + what + "), later", x.count(what), later[what]);
        }
    }

    private static void countsRefused() {
        check.sentence("5 bytes of THE TEXT. BAD.");
        TideDice x = new TideDice();
        for (int what : new int[] {-1, 6, LEAST, MOST}) {
            check.due("count(" + what + ")", x.count(what), BAD);
        }
    }
}
