/** Promises 1 to 5: a new object, THE TEXT, the harbour that it tells. */
final class TextTest {
    private static final Check check = new Check();

    public static void main(String[] args) {
        newObject();
        typing();
        clearing();
        textsThatTell();
        textsWithFaults();
        clearedBytesAreNotRead();
        faultChangesNothing();
        readAnew();
        dice();
        check.end();
    }

    private static void newObject() {
        TideDice x = new TideDice();
        isFirstHarbour("new", x);
        isFirstNow("new", x);
        check.due("new trace()", x.trace(), 0);
    }

    private static void isFirstHarbour(String when, TideDice x) {
        for (int d = 0; d < 3; d++) {
            check.due(when + " die(d, -1)", x.die(d, -1), 6);
            for (int i = 0; i < 6; i++) {
                check.due(when + " die(d, i)", x.die(d, i), i + 1);
            }
        }
        check.due(when + " count(0)", x.count(0), 12);
        check.due(when + " count(1)", x.count(1), 4);
        check.due(when + " count(2)", x.count(2), 216);
    }

    private static void isFirstNow(String when, TideDice x) {
        int[] first = {0, 0, TideDice.NONE, 0, TideDice.NONE, 0};
        for (int what = 0; what < first.length; what++) {
            check.due(when + " now(" + what + ")", x.now(what), first[what]);
        }
        for (int p = 0; p < 2; p++) {
            check.due(when + " berths", x.player(p, 0), 0);
            check.due(when + " tides", x.player(p, 1), 0);
            check.due(when + " blind", x.player(p, 2), 0);
            check.due(when + " race", x.player(p, 3), x.count(1));
            check.due(when + " back", x.back(p), TideDice.STATE);
        }
        for (int b = 1; b <= x.count(0); b++) {
            check.due(when + " berth(" + b + ")", x.berth(b), TideDice.NONE);
        }
        check.due(when + " undo()", x.undo(), TideDice.STATE);
        for (int what = 3; what <= 5; what++) {
            check.due(when + " count(" + what + ")", x.count(what), 0);
        }
    }

    private static void typing() {
        TideDice x = new TideDice();
        for (int c : new int[] {-1, 256, Integer.MIN_VALUE, Integer.MAX_VALUE}) {
            check.due("type(" + c + ")", x.type(c), TideDice.BAD);
        }
        check.due("type(0)", x.type(0), 1);
        check.due("type(255)", x.type(255), 2);
        for (int i = 3; i <= 120; i++) {
            check.due("type(32)", x.type(32), i);
        }
        check.due("type, full", x.type(32), TideDice.FULL);
        check.due("type, bad and full", x.type(256), TideDice.BAD);
        check.due("count(5), full", x.count(5), 120);
    }

    private static void clearing() {
        TideDice x = new TideDice();
        check.due("clear, empty", x.clear(), 0);
        Check.type(x, "d 1;");
        check.due("clear", x.clear(), 4);
        check.due("count(5), cleared", x.count(5), 0);
        check.due("harbour, cleared", x.harbour(), 0);
    }

    private static void textsThatTell() {
        told("", 0, 12, 4, 216);
        told("    ", 0, 12, 4, 216);
        told("d1;", 1, 12, 4, 36);
        told("  d  9   9 ;  ", 1, 12, 4, 72);
        told("g9;b3;", 2, 3, 9, 216);
        told("b 18;g 1;d 1;d 1 2;d 1 2 3;", 5, 18, 1, 6);
        told("d1 2 3 4 5 6;d1 2 3 4 5 6;d1 2 3 4 5 6;", 3, 12, 4, 216);
        told("g 3" + " ".repeat(116) + ";", 1, 12, 3, 216);
    }

    private static void told(String text, int items, int berths, int goal, int all) {
        TideDice x = new TideDice();
        Check.type(x, text);
        check.due("harbour of '" + text + "'", x.harbour(), items);
        check.due("text behind '" + text + "'", x.count(5), 0);
        check.due("berths of '" + text + "'", x.count(0), berths);
        check.due("goal of '" + text + "'", x.count(1), goal);
        check.due("throws of '" + text + "'", x.count(2), all);
    }

    private static void textsWithFaults() {
        // ends too early
        fault("d", 1);
        fault("d ", 2);
        fault("d1", 2);
        fault("d1  ", 4);
        fault("b", 1);
        fault("b 3", 3);
        fault("g 4 ", 4);
        fault("d1;d 2", 6);
        // a token that can't stand there
        fault(";", 0);
        fault("  ;", 2);
        fault("1", 0);
        fault("d;", 1);
        fault("b ;", 2);
        fault("d1;;", 3);
        fault("d1 b", 3);
        fault("d b", 2);
        fault("b 3 4;", 4);
        fault("g 3 4;", 4);
        fault("g b 3;", 2);
        // letters that begin no item
        fault("x;", 0);
        fault("dd1;", 0);
        fault("da1;", 0);
        fault("dz1;", 0);
        fault("d1;bg 3;", 3);
        // told too often
        fault("d1;d1;d1;d1;", 9);
        fault("d1;d1;d1;b3;d", 12);
        fault("d 1 2 3 4 5 6 7;", 14);
        fault("b 3;b 4;", 4);
        fault("g 1;b 3;g 1;", 8);
        // numbers beyond what they may be
        fault("d 0;", 2);
        fault("d 10;", 2);
        fault("d 1 10;", 4);
        fault("b 2;", 2);
        fault("b 19;", 2);
        fault("g 0;", 2);
        fault("g 10;", 2);
        fault("g 99;", 2);
        // numbers that are none
        fault("d 01;", 2);
        fault("d 00;", 2);
        fault("b 012;", 2);
        fault("d 100;", 2);
        fault("d 4294967297;", 2);
        fault("d 1 18446744073709551617;", 4);
        // bytes that begin no token
        fault("D1;", 0);
        fault("dA", 1);
        fault("d\t1;", 1);
        fault("d 1" + (char) 200, 3);
        fault("d 1;" + (char) 0, 4);
        fault("d -1;", 2);
        fault("d 1,2;", 3);
        // the first fault of several
        fault("d 0 01 100 A", 2);
        fault("x" + (char) 200, 0);
        // a full text that ends within a token
        fault("d".repeat(120), 0);
        fault("1".repeat(120), 0);
        fault("b" + " ".repeat(118) + "3", 120);
    }

    private static void clearedBytesAreNotRead() {
        TideDice x = new TideDice();
        Check.type(x, "bb 15;");
        x.clear();
        Check.type(x, "b");
        check.due("harbour, a word ends with the text", x.harbour(), -11);
        x.clear();
        Check.type(x, "b 15;");
        x.clear();
        Check.type(x, "b 1");
        check.due("harbour, a number ends with the text", x.harbour(), -12);
    }

    private static void fault(String text, int place) {
        TideDice x = new TideDice();
        Check.type(x, text);
        check.due("harbour of '" + text + "'", x.harbour(), -10 - place);
        check.due("text behind '" + text + "'", x.count(5), text.length());
        isFirstHarbour("behind '" + text + "'", x);
    }

    private static void faultChangesNothing() {
        TideDice x = Check.harbour("d 7;b 15;g 2;");
        x.keep(1);
        x.throwsDice(7, 1, 1);
        x.chalks(15, 3);
        Check.type(x, "d 1;b 3;g 3;d");
        check.due("harbour with a fault", x.harbour(), -23);
        check.due("die(0, 0) stays", x.die(0, 0), 7);
        check.due("berths stay", x.count(0), 15);
        check.due("goal stays", x.count(1), 2);
        check.due("throw stays", x.now(2), 711);
        check.due("wind stays", x.now(1), 1);
        check.due("chalk stays", x.count(3), 1);
        check.due("undo stays", x.count(4), 1);
        check.due("image stays", x.back(1), 0);
        check.due("text stays", x.clear(), 13);
    }

    private static void readAnew() {
        TideDice x = Check.harbour("d 1;d 1;d 1;b 3;g 3;");
        x.throwsDice(1, 1, 1);
        x.takes(2);
        x.throwsDice(1, 1, 1);
        x.takes(3);
        x.keep(0);
        x.keep(1);
        x.chalks(1, 1);
        x.mark(0, 1);
        check.due("harbour, empty", x.harbour(), 0);
        isFirstHarbour("read anew", x);
        isFirstNow("read anew", x);
        check.due("trace is not the text's", x.trace(), 1);
        Check.type(x, "b 3;");
        check.due("harbour, one item", x.harbour(), 1);
        check.due("berths as told", x.count(0), 3);
        check.due("goal at first", x.count(1), 4);
        Check.type(x, "d 8;g 2;b 4;");
        check.due("harbour, three items", x.harbour(), 3);
        check.due("die 0 is the first told again", x.die(0, 0), 8);
        check.due("die 1 at first", x.die(1, -1), 6);
    }

    private static void dice() {
        TideDice x = Check.harbour("d 9 1 9;d 4;");
        check.due("die(0, -1)", x.die(0, -1), 3);
        check.due("die(0, 0)", x.die(0, 0), 9);
        check.due("die(0, 1)", x.die(0, 1), 1);
        check.due("die(0, 2)", x.die(0, 2), 9);
        check.due("die(1, -1)", x.die(1, -1), 1);
        check.due("die(1, 0)", x.die(1, 0), 4);
        check.due("die(2, 5)", x.die(2, 5), 6);
        int[][] bad = {{0, 3}, {1, 1}, {2, 6}, {0, -2}, {-1, 0}, {3, 0}, {3, -1}, {-1, -1},
            {Integer.MAX_VALUE, 0}, {0, Integer.MAX_VALUE}, {0, Integer.MIN_VALUE}};
        for (int[] pair : bad) {
            check.due("die(" + pair[0] + ", " + pair[1] + ")", x.die(pair[0], pair[1]), TideDice.BAD);
        }
    }
}
