/** Promises 14 to 23: odds, and the chalk by the door. */
final class OddsTest {
    private static final int NONE = TideDice.NONE, BAD = TideDice.BAD;
    private static final Check check = new Check();

    public static void main(String[] args) {
        chances();
        idleWaitMean();
        oddsRefused();
        wise();
        wiseLooksAtEachBerth();
        cheap();
        ever();
        chalking();
        wrongAndOff();
        betting();
        check.end();
    }

    private static void fraction(String what, TideDice x, int b, int upper, int lower) {
        check.due(what + " upper", x.chance(b, 0), upper);
        check.due(what + " lower", x.chance(b, 1), lower);
    }

    private static void chances() {
        // All throws: 111 twice and 121 twice, the latter turning the wind.
        TideDice x = Check.harbour("d1 1;d1 2;d1;b5;g9;");
        fraction("chance(1)", x, 1, 1, 2);
        fraction("chance(3)", x, 3, 1, 1);
        fraction("chance(4)", x, 4, 1, 2);
        fraction("chance(5)", x, 5, 1, 2);
        x.throwsDice(1, 2, 1);
        fraction("chance(1), the wind turned", x, 1, 1, 2);
        x.takes(3);
        fraction("chance(3), somebody's", x, 3, 0, 1);
        x = Check.harbour("d1;d1 2 3;d1;b18;");
        // 111 in wind 0 opens 1, 2, 3; 121 and 131 in wind 1 open 18, 17, ..
        fraction("chance(1)", x, 1, 1, 3);
        fraction("chance(18)", x, 18, 2, 3);
        fraction("chance(9)", x, 9, 0, 1);
        x.throwsDice(1, 2, 1);
        fraction("chance(1), in wind 1", x, 1, 2, 3);
        fraction("chance(18), in wind 1", x, 18, 1, 3);
        int[][] bad = {{0, 0}, {19, 0}, {1, 2}, {1, -1}, {33, 0}, {Integer.MIN_VALUE, 1}, {1, Integer.MAX_VALUE}};
        for (int[] pair : bad) {
            check.due("chance(" + pair[0] + ", " + pair[1] + ")", x.chance(pair[0], pair[1]), BAD);
        }
    }

    private static void odds(String when, TideDice x, int... parts) {
        for (int i = 0; i < parts.length; i++) {
            check.due(when + " odds(" + i / 2 + ", " + i % 2 + ")", x.odds(i / 2, i % 2), parts[i]);
        }
    }

    private static void idleWaitMean() {
        // Die 0 alone opens, each of its pips one berth.
        TideDice x = Check.harbour("d1 2 3 4;d8;d9;b5;g5;");
        odds("four throws", x, 0, 1, 1, 1, 1, 1);
        x = Check.harbour("d3 4 5 6 6 6;d8;d9;b3;g1;");
        odds("one of six opens", x, 5, 6, 6, 1, 1, 6);
        x.throwsDice(3, 8, 9);
        odds("while one lies", x, 5, 6, 6, 1, 1, 6);
        x.takes(3);
        odds("none opens", x, 1, 1, NONE, NONE, 0, 1);
        // 112 turns the wind: 12, 11, 10, 9; 312 does not: 3, 1, 2, 4, 5, 6.
        x = Check.harbour("d1 3;d1;d2;");
        odds("ten of two throws", x, 0, 1, 1, 1, 5, 1);
        x = Check.harbour("d1 3 3;d1;d2;");
        odds("told twice counts twice", x, 0, 1, 1, 1, 16, 3);
    }

    private static void oddsRefused() {
        TideDice x = new TideDice();
        int[][] bad = {{3, 0}, {-1, 0}, {0, 2}, {1, -1}, {2, 2}, {Integer.MAX_VALUE, 0}, {0, Integer.MIN_VALUE}};
        for (int[] pair : bad) {
            check.due("odds(" + pair[0] + ", " + pair[1] + ")", x.odds(pair[0], pair[1]), BAD);
        }
        x = Check.harbour("d9;d9;d9;b3;");
        check.due("odds(1, 2), never open", x.odds(1, 2), BAD);
        check.due("odds(1, 1), never open", x.odds(1, 1), NONE);
    }

    private static void wise() {
        TideDice x = new TideDice();
        check.due("wise(0), nothing lies", x.wise(0), NONE);
        check.due("wise(1), nothing lies", x.wise(1), NONE);
        check.due("wise(2)", x.wise(2), BAD);
        check.due("wise(-1)", x.wise(-1), BAD);
        check.due("wise(max)", x.wise(Integer.MAX_VALUE), BAD);
        x = Check.harbour("b 3;");
        x.throwsDice(4, 5, 6);
        check.due("wise(0), nothing open", x.wise(0), NONE);
        check.due("wise(1), nothing open", x.wise(1), NONE);
        check.due("wise(2), nothing open", x.wise(2), BAD);
    }

    private static void wiseLooksAtEachBerth() {
        // 189, 289, 389, 389 and of three berths 1, 2, 3: taking 3 leaves fewest.
        TideDice x = Check.harbour("d1 2 3 3;d8;d9;b3;g3;");
        x.throwsDice(1, 8, 9);
        check.due("wise(0), only one open", x.wise(0), 1);
        check.due("wise(1), only one open", x.wise(1), 3);
        x = Check.harbour("d1 2 3 3;d2 9;d9;b3;g3;");
        // All throws: 1 2 9 open 1, 2, 3; 2 2 9 turns the wind: 2; 3 2 9 twice: 3, 2; 1, 2, 3, 3 with 9 9 turn it: 3, 2, 1, 1.
        x.throwsDice(1, 2, 9);
        check.due("open", x.now(3), Check.bits(1, 2, 3));
        // Without 1 two fail (399 twice); without 2 two fail (229, 299); without 3 one fails (199).
        check.due("wise(0), of several the least", x.wise(0), 1);
        check.due("wise(1)", x.wise(1), 6);
        x.takes(1);
        x.throwsDice(3, 2, 9);
        // Without 1 and 2 four fail (399 twice, 229, 299); without 1 and 3 three (399 twice, 199).
        check.due("wise(0), not the first open", x.now(3), Check.bits(2, 3));
        check.due("wise(0)", x.wise(0), 2);
        check.due("wise(1)", x.wise(1), 4);
        check.due("nothing is taken", x.berth(2), NONE);

        x = Check.harbour("d1 2 2 2;d2 9;d9;b3;g3;");
        x.throwsDice(1, 2, 9);
        // 129: 1, 2, 3; 229 three times, turned: 2; 199 turned: 3; 299 three times, turned: 2.
        check.due("wise(0), the middle one", x.wise(0), 2);
        check.due("wise(1), the middle one", x.wise(1), 2);
    }

    private static void cheap() {
        TideDice x = new TideDice();
        check.due("cheap, nothing lies", x.cheap(), NONE);
        x.throwsDice(3, 4, 6);
        check.due("cheap, of several the least", x.cheap(), 3);
        x.takes(4);
        x.throwsDice(5, 6, 3);
        check.due("cheap, below the other's", x.cheap(), 3);
        x.takes(9);
        x.throwsDice(5, 6, 4);
        check.due("cheap, all above", x.cheap(), 5);
        x = Check.harbour("b 3;");
        x.throwsDice(4, 5, 6);
        check.due("cheap, nothing open", x.cheap(), NONE);
        x.passes();
        x.throwsDice(1, 2, 6);
        check.due("cheap, the first berth", x.cheap(), 1);
        x.takes(1);
        x.throwsDice(3, 5, 6);
        check.due("cheap, the last berth", x.cheap(), 3);
        check.due("wise, the last berth", x.wise(0), 3);
    }

    private static void ever() {
        check.due("ever at first", new TideDice().ever(), 8190);
        TideDice x = Check.harbour("d2;d4;d8;b12;");
        int both = Check.bits(2, 4, 6, 8, 10, 12) | Check.bits(11, 9, 7, 5, 3, 1);
        check.due("ever, in some wind", x.ever(), both);
        x = Check.harbour("d9;d9;d9;b8;");
        check.due("ever, none", x.ever(), 0);
        x = Check.harbour("d1;d1;d1;b8;");
        check.due("ever, few", x.ever(), Check.bits(1, 2, 3, 8, 7, 6));
        x.throwsDice(1, 1, 1);
        x.takes(1);
        check.due("ever, be they somebody's", x.ever(), Check.bits(1, 2, 3, 8, 7, 6));
    }

    private static void chalking() {
        TideDice x = new TideDice();
        int[][] bad = {{0, 1}, {13, 1}, {1, -1}, {1, 217}, {33, 1}, {Integer.MIN_VALUE, 0}, {1, Integer.MAX_VALUE}};
        for (int[] pair : bad) {
            check.due("chalks(" + pair[0] + ", " + pair[1] + ")", x.chalks(pair[0], pair[1]), BAD);
        }
        check.due("wipes, none", x.wipes(), 0);
        check.due("chalks(1, 0)", x.chalks(1, 0), 1);
        check.due("chalks(12, 216)", x.chalks(12, 216), 2);
        for (int n = 3; n <= 6; n++) {
            check.due("chalks(12, 216)", x.chalks(12, 216), n);
        }
        check.due("chalks, full", x.chalks(1, 1), TideDice.FULL);
        check.due("chalks, BAD ahead of FULL", x.chalks(0, 1), BAD);
        check.due("count(3)", x.count(3), 6);
        check.due("wipes()", x.wipes(), 6);
        check.due("count(3), wiped", x.count(3), 0);
        check.due("off(0), wiped", x.off(0), TideDice.NO);
        check.due("wrong(), wiped", x.wrong(), 0);
        check.due("chalks, wiped", x.chalks(1, 1), 1);
    }

    private static void wrongAndOff() {
        // Die 0 alone opens: 1 by one of four throws, 2 by one, 3 by two.
        TideDice x = Check.harbour("d1 2 3 3;d8;d9;b3;g3;");
        check.due("wrong(), none chalked", x.wrong(), 0);
        check.due("off(0), none chalked", x.off(0), TideDice.NO);
        x.chalks(1, 54);
        x.chalks(2, 53);
        x.chalks(3, 108);
        x.chalks(3, 109);
        check.due("wrong()", x.wrong(), Check.bits(1, 3));
        check.due("off(0)", x.off(0), 0);
        check.due("off(1)", x.off(1), -4);
        check.due("off(2)", x.off(2), 0);
        check.due("off(3)", x.off(3), 4);
        for (int k : new int[] {4, -1, 6, Integer.MIN_VALUE, Integer.MAX_VALUE}) {
            check.due("off(" + k + ")", x.off(k), TideDice.NO);
        }
        x.throwsDice(3, 8, 9);
        x.takes(3);
        check.due("wrong(), as it is now", x.wrong(), Check.bits(1, 2, 3));
        check.due("off(2), as it is now", x.off(2), 432);
    }

    private static void betting() {
        TideDice x = Check.harbour("d1 2 3 3;d8;d9;b3;g3;");
        check.due("bet, none chalked", x.bet(), NONE);
        x.chalks(1, 54);
        check.due("bet, none wrong", x.bet(), NONE);
        x.chalks(2, 55);
        check.due("bet, above 0", x.bet(), 1);
        x.chalks(2, 52);
        check.due("bet, below 0", x.bet(), 2);
        x.chalks(2, 56);
        check.due("bet, of several the first", x.bet(), 2);
        x.chalks(3, 216);
        check.due("bet, farthest", x.bet(), 4);
        x.wipes();
        check.due("bet, wiped", x.bet(), NONE);
        x = Check.harbour("d1 2 3 3 3;d8;d9;b3;g3;");
        x.chalks(1, 43);
        check.due("off(0), by one", x.off(0), -1);
        check.due("wrong, the first", x.wrong(), 1);
        check.due("bet, by one", x.bet(), 0);
    }
}
