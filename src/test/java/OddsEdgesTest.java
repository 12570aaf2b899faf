/** The edges that part 3 of the Terms and promises 14 to 27 name, a test for each sentence. */
final class OddsEdgesTest {
    private static final int NONE = TideDice.NONE, BAD = TideDice.BAD, FULL = TideDice.FULL, NO = TideDice.NO;
    private static final int LEAST = Integer.MIN_VALUE, MOST = Integer.MAX_VALUE;
    private static final Check check = new Check();

    public static void main(String[] args) {
        allThrows();
        chanceNeverAndAlways();
        chanceIsOpenNow();
        chanceTurnedAsTold();
        chanceRefused();
        idle();
        waits();
        mean();
        oddsRefused();
        wiseFewest();
        wiseOfSeveralTheLeast();
        wiseWindAsItIsNow();
        wiseNone();
        cheapFewest();
        cheapNone();
        ever();
        sixChalked();
        chalkedZeroTo216();
        wiping();
        wrongExactly();
        wrongAsItIsNow();
        offOfEach();
        betFarthest();
        betOfSeveralTheFirst();
        betNone();
        thirdInThisWind();
        thirdNobodyHavingAny();
        thirdRefused();
        threwInThisWind();
        threwTheFirst();
        threwNone();
        threwRefused();
        beats();
        beatsRefused();
        ringEitherWay();
        ringMoreOftenThanNot();
        check.end();
    }

    private static void fraction(String what, int upper, int lower, int dueUpper, int dueLower) {
        check.due(what + ", upper", upper, dueUpper);
        check.due(what + ", lower", lower, dueLower);
    }

    private static void chance(TideDice x, int b, int upper, int lower) {
        fraction("chance(" + b + ")", x.chance(b, 0), x.chance(b, 1), upper, lower);
    }

    private static void odds(TideDice x, int which, int upper, int lower) {
        fraction("odds(" + which + ")", x.odds(which, 0), x.odds(which, 1), upper, lower);
    }

    private static void allThrows() {
        check.sentence("each PIP of each DIE with each of the others, alike likely; PIPS told twice count twice");
        check.due("one", Check.harbour("d1;d1;d1;").count(2), 1);
        check.due("all", new TideDice().count(2), 216);
        check.due("one, two and three", Check.harbour("d1;d1 2;d1 2 3;").count(2), 6);
        check.due("told twice", Check.harbour("d1 1;d2 2 2;d3;").count(2), 6);
        chance(Check.harbour("d1 2 2;d8;d9;b3;"), 2, 2, 3);
        fraction("beats", Check.harbour("d1 3 3;d2;").beats(0, 1, 0), Check.harbour("d1 3 3;d2;").beats(0, 1, 1), 2, 3);
    }

    private static void chanceNeverAndAlways() {
        check.sentence("CHANCE: upper (what = 0), lower number (1), in least terms. BAD.");
        TideDice x = Check.harbour("d1 2;d8;d9;b3;");
        chance(x, 3, 0, 1);
        chance(x, 1, 1, 2);
        chance(Check.harbour("d1;d8 9;d8 9;b3;"), 2, 0, 1);
        chance(Check.harbour("d1;d2;d3 4;b18;"), 1, 1, 1);
        chance(new TideDice(), 6, 11, 18);
        chance(new TideDice(), 2, 77, 216);
    }

    private static void chanceIsOpenNow() {
        check.sentence("by how many of all THROWS it would be OPEN NOW");
        TideDice x = Check.harbour("d1 2;d8;d9;b3;");
        x.throwsDice(1, 8, 9);
        chance(x, 1, 1, 2);
        x.leaves();
        chance(x, 1, 1, 2);
        x.takes(1);
        chance(x, 1, 0, 1);
        chance(x, 2, 1, 2);
        x.undo();
        chance(x, 1, 1, 2);
    }

    private static void chanceTurnedAsTold() {
        check.sentence("WIND turned by two alike as told: a fraction");
        // 119 turns the wind, 129 does not, 111 would not.
        TideDice x = Check.harbour("d1;d1 2;d9;b18;");
        chance(x, 18, 1, 2);
        chance(x, 1, 1, 2);
        chance(x, 10, 1, 1);
        x.throwsDice(1, 1, 9);
        chance(x, 18, 1, 2);
        chance(x, 1, 1, 2);
        x = Check.harbour("d1;d1;d1 9 9;b18;");
        chance(x, 1, 1, 3);
        chance(x, 18, 2, 3);
        x.throwsDice(1, 1, 9);
        chance(x, 1, 2, 3);
        chance(x, 18, 1, 3);
    }

    private static void chanceRefused() {
        check.sentence("CHANCE: upper (what = 0), lower number (1), in least terms. BAD.");
        TideDice x = new TideDice();
        for (int b : new int[] {0, 13, -1, 33, LEAST, MOST}) {
            check.due("chance(" + b + ", 0)", x.chance(b, 0), BAD);
            check.due("chance(" + b + ", 1)", x.chance(b, 1), BAD);
        }
        for (int what : new int[] {-1, 2, LEAST, MOST}) {
            check.due("chance(1, " + what + ")", x.chance(1, what), BAD);
            check.due("chance(12, " + what + ")", x.chance(12, what), BAD);
        }
        check.due("chance(12, 0)", x.chance(12, 0), 25);
    }

    private static void idle() {
        check.sentence("IDLE: by how many none is: a fraction");
        odds(new TideDice(), 0, 0, 1);
        odds(Check.harbour("d9;d9;d9;b8;"), 0, 1, 1);
        odds(Check.harbour("d1 4 5 6;d7;d8;b3;"), 0, 3, 4);
        TideDice x = Check.harbour("d1 4 5 6;d7;d8;b3;");
        x.throwsDice(1, 7, 8);
        odds(x, 0, 3, 4);
        x.takes(1);
        odds(x, 0, 1, 1);
    }

    private static void waits() {
        check.sentence("WAIT: one by how many something is OPEN (how many THROWS in the mean till then): a fraction; NONE: never");
        odds(new TideDice(), 1, 1, 1);
        odds(Check.harbour("d9;d9;d9;b8;"), 1, NONE, NONE);
        odds(Check.harbour("d1 4 5 6;d7;d8;b3;"), 1, 4, 1);
        odds(Check.harbour("d1 2 4 5 6;d7;d8;b3;"), 1, 5, 2);
        odds(Check.harbour("d1 2 4 5;d7;d8;b3;"), 1, 2, 1);
        TideDice x = Check.harbour("d1;d7;d8;b3;g1;");
        odds(x, 1, 1, 1);
        x.throwsDice(1, 7, 8);
        x.takes(1);
        odds(x, 1, NONE, NONE);
        x.undo();
        odds(x, 1, 1, 1);
    }

    private static void mean() {
        check.sentence("MEAN: how many are OPEN, of all THROWS: a fraction");
        odds(Check.harbour("d9;d9;d9;b8;"), 2, 0, 1);
        odds(Check.harbour("d1;d2;d4;b18;"), 2, 7, 1);
        odds(Check.harbour("d1;d2;d3;b18;"), 2, 6, 1);
        odds(Check.harbour("d1 4 5 6;d7;d8;b3;"), 2, 1, 4);
        odds(new TideDice(), 2, 1207, 216);
        TideDice x = Check.harbour("d1;d2;d4;b18;");
        x.throwsDice(1, 2, 4);
        x.takes(7);
        odds(x, 2, 6, 1);
        // 119 turns the wind each time: 18 .. 8 are open by it, and then 1 .. 11 again.
        x = Check.harbour("d1;d1;d9;b18;");
        x.throwsDice(1, 1, 9);
        x.takes(18);
        odds(x, 2, 5, 1);
        x.throwsDice(1, 1, 9);
        odds(x, 2, 4, 1);
    }

    private static void oddsRefused() {
        check.sentence("IDLE (which = 0), WAIT (1; NONE), MEAN (2): upper (what = 0), lower number (1), in least terms. BAD.");
        for (TideDice x : new TideDice[] {new TideDice(), Check.harbour("d9;d9;d9;b8;")}) {
            for (int which : new int[] {-1, 3, LEAST, MOST}) {
                check.due("odds(" + which + ", 0)", x.odds(which, 0), BAD);
                check.due("odds(" + which + ", 1)", x.odds(which, 1), BAD);
            }
            for (int what : new int[] {-1, 2, LEAST, MOST}) {
                for (int which = 0; which < 3; which++) {
                    check.due("odds(" + which + ", " + what + ")", x.odds(which, what), BAD);
                }
            }
        }
    }

    /** In wind 0 without 1 eight of 16 throws open something, without 2 twelve, without 3 nine; in wind 1 turned round. */
    private static final String WISE = "d1 1 3 8;d2 8 8 9;d9;b3;g3;";

    private static void wiseFewest() {
        check.sentence("by which, TAKEN, fewest of all THROWS of the other one");
        TideDice x = Check.harbour(WISE);
        x.throwsDice(1, 2, 9);
        check.due("open", x.now(3), Check.bits(1, 2, 3));
        check.due("wise(0)", x.wise(0), 1);
        check.due("wise(1)", x.wise(1), 8);
        // With 3 gone: without 1 only what opens 2 is left: 129 twice, 329, 829; without 2 all but 829 and what 3 alone had.
        x.takes(3);
        x.throwsDice(1, 2, 9);
        check.due("wise(0), 3 being somebody's", x.wise(0), 1);
        check.due("wise(1), 3 being somebody's", x.wise(1), 4);
        x.takes(1);
        x.throwsDice(1, 2, 9);
        check.due("wise(0), the last", x.wise(0), 2);
        check.due("wise(1), none is left", x.wise(1), 0);
    }

    private static void wiseOfSeveralTheLeast() {
        check.sentence("of several the least; by how many of all");
        TideDice x = Check.harbour("d2;d1;d9;b3;g3;");
        x.throwsDice(2, 1, 9);
        check.due("wise(0), all alike", x.wise(0), 1);
        check.due("wise(1)", x.wise(1), 1);
        x.takes(1);
        x.throwsDice(2, 1, 9);
        check.due("wise(0), two alike", x.wise(0), 2);
        x.takes(2);
        x.throwsDice(2, 1, 9);
        check.due("wise(0), the last berth", x.wise(0), 3);
        check.due("wise(1)", x.wise(1), 0);
        x = new TideDice();
        x.throwsDice(6, 5, 4);
        check.due("wise(0), at first", x.wise(0), 4);
        check.due("wise(1), of 216", x.wise(1), 216);
    }

    private static void wiseWindAsItIsNow() {
        check.sentence("(WIND as it is now, turned as told)");
        TideDice x = Check.harbour(WISE);
        x.throwsDice(8, 8, 9);
        x.passes();
        x.throwsDice(1, 2, 9);
        check.due("wind", x.now(1), 1);
        check.due("open", x.now(3), Check.bits(1, 2, 3));
        check.due("wise(0), in wind 1", x.wise(0), 3);
        check.due("wise(1), in wind 1", x.wise(1), 8);
    }

    private static void wiseNone() {
        check.sentence("WISE: the BERTH (what = 0), by how many THROWS (1); NONE. BAD.");
        TideDice x = Check.harbour("b3;g1;");
        for (int step = 0; step < 3; step++) {
            if (step == 1) {
                x.throwsDice(4, 5, 6);
            } else if (step == 2) {
                x.passes();
                x.throwsDice(1, 5, 6);
                x.takes(1);
            }
            check.due("wise(0), step " + step, x.wise(0), NONE);
            check.due("wise(1), step " + step, x.wise(1), NONE);
            for (int what : new int[] {-1, 2, LEAST, MOST}) {
                check.due("wise(" + what + "), step " + step, x.wise(what), BAD);
            }
        }
        x = new TideDice();
        x.throwsDice(1, 2, 3);
        check.due("wise(2), something open", x.wise(2), BAD);
        check.due("wise(-1), something open", x.wise(-1), BAD);
    }

    private static void cheapFewest() {
        check.sentence("CHEAP: that by which he gives fewest TIDES, of several the least");
        TideDice x = new TideDice();
        x.throwsDice(4, 1, 6);
        check.due("nobody has any", x.cheap(), 1);
        x.takes(4);
        x.throwsDice(3, 2, 6);
        check.due("two give none", x.cheap(), 2);
        x.takes(2);
        x.throwsDice(2, 6, 5);
        check.due("all give one", x.cheap(), 5);
        x = Check.harbour("b3;g1;");
        x.throwsDice(3, 4, 5);
        check.due("the last berth alone", x.cheap(), 3);
    }

    private static void cheapNone() {
        check.sentence("NONE: nothing lies, or is OPEN");
        TideDice x = Check.harbour("b3;g1;");
        check.due("nothing lies", x.cheap(), NONE);
        x.throwsDice(4, 5, 6);
        check.due("nothing is open", x.cheap(), NONE);
        x.passes();
        x.throwsDice(1, 5, 6);
        check.due("one is open", x.cheap(), 1);
        x.takes(1);
        check.due("won", x.cheap(), NONE);
    }

    private static void ever() {
        check.sentence("that some THROW opens in some WIND, be they somebody's");
        check.due("none", Check.harbour("d9;d9;d9;b8;").ever(), 0);
        check.due("all of 18", Check.harbour("b18;").ever(), (1 << 19) - 2);
        check.due("all of 3", Check.harbour("b3;").ever(), 14);
        check.due("no wind turns", Check.harbour("d1;d2;d4;b18;").ever(),
            Check.bits(1, 2, 3, 4, 5, 6, 7, 12, 13, 14, 15, 16, 17, 18));
        check.due("the sum that is the last berth", Check.harbour("d8;d8;d8;b8;").ever(), Check.bits(8, 1));
        TideDice x = Check.harbour("d1;d1;d1;b8;");
        x.throwsDice(1, 1, 1);
        x.takes(2);
        check.due("one is somebody's", x.ever(), Check.bits(1, 2, 3, 6, 7, 8));
    }

    private static void sixChalked() {
        check.sentence("CHALKED (6 at most)");
        TideDice x = new TideDice();
        for (int k = 1; k <= 6; k++) {
            check.due("chalks, the " + k + "-th", x.chalks(k, 0), k);
        }
        check.due("chalks, the 7th", x.chalks(1, 0), FULL);
        check.due("count(3)", x.count(3), 6);
        check.due("the first stays", x.off(0), -216 * 82);
        check.due("the sixth", x.off(5), -216 * 132);
        check.due("BAD ahead of FULL, berth", x.chalks(13, 0), BAD);
        check.due("BAD ahead of FULL, n", x.chalks(1, 217), BAD);
    }

    private static void chalkedZeroTo216() {
        check.sentence("of a BERTH n (0 .. 216) THROWS of 216");
        TideDice x = new TideDice();
        for (int n : new int[] {-1, 217, LEAST, MOST}) {
            check.due("chalks(1, " + n + ")", x.chalks(1, n), BAD);
        }
        for (int b : new int[] {0, 13, -1, 33, LEAST, MOST}) {
            check.due("chalks(" + b + ", 1)", x.chalks(b, 1), BAD);
        }
        check.due("count(3), none", x.count(3), 0);
        check.due("chalks(1, 0)", x.chalks(1, 0), 1);
        check.due("chalks(12, 216)", x.chalks(12, 216), 2);
        check.due("off(0)", x.off(0), -216 * 82);
        check.due("off(1)", x.off(1), 216 * (216 - 50));
    }

    private static void wiping() {
        check.sentence("All chalk is wiped: how much there was.");
        TideDice x = new TideDice();
        check.due("wipes, none", x.wipes(), 0);
        x.chalks(1, 1);
        check.due("wipes, one", x.wipes(), 1);
        check.due("wipes, none again", x.wipes(), 0);
        for (int k = 0; k < 6; k++) {
            x.chalks(2, 1);
        }
        check.due("wipes, six", x.wipes(), 6);
        check.due("count(3)", x.count(3), 0);
        check.due("wrong()", x.wrong(), 0);
        check.due("bet()", x.bet(), NONE);
        check.due("off(0)", x.off(0), NO);
        check.due("chalks, there is room", x.chalks(1, 82), 1);
        check.due("wrong(), the new one alone", x.wrong(), 0);
    }

    private static void wrongExactly() {
        check.sentence("that are not CHANCE as it is NOW, exactly");
        // Five throws: 1, 2 by one, 3 by three; a fifth of 216 is 43.2.
        TideDice x = Check.harbour("d1 2 3 3 3;d8;d9;b3;");
        x.chalks(1, 43);
        x.chalks(1, 44);
        x.chalks(3, 129);
        x.chalks(3, 130);
        check.due("between two", x.wrong(), 15);
        x = new TideDice();
        x.chalks(1, 82);
        x.chalks(1, 81);
        x.chalks(1, 83);
        check.due("all but the first", x.wrong(), 6);
        x = Check.harbour("d1;d8;d9;b3;");
        x.chalks(1, 216);
        x.chalks(2, 0);
        x.chalks(1, 215);
        x.chalks(2, 1);
        x.chalks(2, 0);
        x.chalks(1, 0);
        check.due("always and never, six of them", x.wrong(), Check.bits(2, 3, 5));
        check.due("none chalked", new TideDice().wrong(), 0);
    }

    private static void wrongAsItIsNow() {
        check.sentence("WRONG, as bits.");
        TideDice x = Check.harbour("d1 2;d8;d9;b3;");
        x.chalks(1, 108);
        x.chalks(1, 0);
        check.due("at first", x.wrong(), 2);
        x.throwsDice(1, 8, 9);
        check.due("thrown", x.wrong(), 2);
        x.takes(1);
        check.due("taken", x.wrong(), 1);
        x.undo();
        check.due("undone", x.wrong(), 2);
    }

    private static void offOfEach() {
        check.sentence("OFF of the k-th: n times all THROWS, less 216 times how many of them CHANCE has");
        TideDice x = Check.harbour("d1 2 3 3;d8;d9;b3;");
        x.chalks(1, 54);
        x.chalks(3, 216);
        x.chalks(3, 0);
        check.due("off(0)", x.off(0), 0);
        check.due("off(1)", x.off(1), 4 * 216 - 216 * 2);
        check.due("off(2)", x.off(2), -216 * 2);
        check.sentence("OFF. NO: BAD.");
        for (int k : new int[] {-1, 3, 4, 5, 6, LEAST, MOST}) {
            check.due("off(" + k + ")", x.off(k), NO);
        }
        check.due("off(0), none chalked", new TideDice().off(0), NO);
        for (int k = 3; k < 6; k++) {
            x.chalks(2, 54);
        }
        check.due("off(5)", x.off(5), 0);
        check.due("off(6), of six", x.off(6), NO);
        // The farthest there are: always for what is never open, never for what is always.
        x = Check.harbour("d4 5 6 7 8 9;d4 5 6 7 8 9;d4 5 6 7 8 9;b3;");
        x.chalks(1, 216);
        check.due("off, above", x.off(0), 46656);
        x = Check.harbour("d1 1 1 1 1 1;d2 2 2 2 2 2;d9 9 9 9 9 9;");
        x.chalks(1, 0);
        check.due("off, below", x.off(0), -46656);
    }

    private static void betFarthest() {
        check.sentence("BET: the one that is farthest OFF, above or below 0");
        TideDice x = Check.harbour("d1 2 3 3;d8;d9;b3;");
        x.chalks(1, 55);
        check.due("the only one", x.bet(), 0);
        x.chalks(1, 52);
        check.due("below 0", x.bet(), 1);
        x.chalks(1, 57);
        check.due("above 0", x.bet(), 2);
        x.chalks(1, 54);
        check.due("one that is right", x.bet(), 2);
        x.chalks(1, 50);
        check.due("below 0 again", x.bet(), 4);
        x.chalks(1, 216);
        check.due("the sixth", x.bet(), 5);
    }

    private static void betOfSeveralTheFirst() {
        check.sentence("of several the first");
        TideDice x = Check.harbour("d1 2 3 3;d8;d9;b3;");
        x.chalks(1, 54);
        x.chalks(1, 55);
        x.chalks(1, 53);
        check.due("above, then below", x.bet(), 1);
        x.wipes();
        x.chalks(1, 53);
        x.chalks(1, 55);
        x.chalks(1, 53);
        check.due("below, then above", x.bet(), 0);
    }

    private static void betNone() {
        check.sentence("NONE: none is WRONG");
        TideDice x = Check.harbour("d1 2 3 3;d8;d9;b3;");
        check.due("none chalked", x.bet(), NONE);
        x.chalks(1, 54);
        x.chalks(3, 108);
        check.due("all right", x.bet(), NONE);
        x.throwsDice(1, 8, 9);
        x.takes(1);
        check.due("wrong now", x.bet(), 0);
        x = Check.harbour("d1 2 3 3 3;d8;d9;b3;");
        x.chalks(1, 43);
        check.due("wrong by the least", x.bet(), 0);
    }

    private static void thirdInThisWind() {
        check.sentence("by which a BERTH would be OPEN in the WIND as it is NOW (not turned)");
        TideDice x = Check.harbour("d1 2;d1;d1 1 4 9;b18;");
        check.due("by each", x.third(2, 1, 3), Check.bits(1, 4, 9));
        check.due("by the third alone", x.third(2, 1, 9), Check.bits(9));
        check.due("by two of them", x.third(2, 1, 10), Check.bits(9));
        check.due("by all three", x.third(2, 1, 12), Check.bits(9));
        check.due("by none", x.third(2, 1, 13), 0);
        check.due("two alike do not turn it", x.third(1, 1, 2), Check.bits(1, 4, 9));
        check.due("nor so", x.third(1, 1, 18), 0);
        x.throwsDice(1, 1, 4);
        check.due("in wind 1", x.third(1, 1, 18), Check.bits(1, 4, 9));
        check.due("in wind 1, by all three", x.third(2, 1, 7), Check.bits(9));
        check.due("in wind 1, none", x.third(1, 1, 2), 0);
        check.due("a sum beyond the berths", Check.harbour("b3;").third(2, 1, 3), Check.bits(1, 2, 3, 4, 5, 6));
        check.due("a sum that is the last berth", Check.harbour("b12;").third(6, 5, 12), Check.bits(1, 6));
    }

    private static void thirdNobodyHavingAny() {
        check.sentence("nobody having any");
        TideDice x = Check.harbour("d2;d3;d1 4;g9;");
        x.throwsDice(2, 3, 1);
        x.takes(3);
        x.throwsDice(2, 3, 1);
        x.takes(6);
        check.due("third(2, 3, 3)", x.third(2, 3, 3), Check.bits(1, 4));
        check.due("third(2, 3, 6)", x.third(2, 3, 6), Check.bits(1, 4));
        check.due("threw(3, 0)", x.threw(3, 0), 2);
        check.due("threw(6, 0)", x.threw(6, 0), 2);
        check.due("threw(6, 1)", x.threw(6, 1), 231);
    }

    private static void thirdRefused() {
        check.sentence("THIRD, as bits. BAD (not PIPS of these DICE).");
        TideDice x = Check.harbour("d2 9;d3;d1 4;");
        for (int pip : new int[] {0, 1, 3, 8, 10, -2, LEAST, MOST}) {
            check.due("third(" + pip + ", 3, 1)", x.third(pip, 3, 1), BAD);
        }
        for (int pip : new int[] {0, 1, 2, 4, 9, 10, -3, LEAST, MOST}) {
            check.due("third(2, " + pip + ", 1)", x.third(2, pip, 1), BAD);
        }
        for (int b : new int[] {0, 13, -1, 33, LEAST, MOST}) {
            check.due("third(2, 3, " + b + ")", x.third(2, 3, b), BAD);
        }
        check.due("third(9, 3, 12)", x.third(9, 3, 12), Check.bits(1, 4));
        check.due("third(2, 3, 1)", x.third(2, 3, 1), Check.bits(1));
    }

    private static void threwInThisWind() {
        check.sentence("how many of all THROWS open it in that WIND (not turned), nobody having any");
        TideDice x = Check.harbour("d1;d1;d1 9 9;b18;");
        check.due("all, two alike not turning", x.threw(1, 0), 3);
        check.due("told twice", x.threw(9, 0), 2);
        check.due("in the other wind", x.threw(18, 0), 0);
        x.throwsDice(1, 1, 9);
        check.due("in wind 1", x.threw(18, 0), 3);
        check.due("in wind 1, told twice", x.threw(8, 0), 2);
        check.due("in wind 1, none", x.threw(1, 0), 0);
        check.due("at first", new TideDice().threw(1, 0), 91);
    }

    private static void threwTheFirst() {
        check.sentence("the first of them (100 times what DIE 0 shows, 10 times DIE 1, DIE 2: as PIPS are told)");
        TideDice x = Check.harbour("d9 1;d8 2;d7 3;b18;");
        check.due("the very first", x.threw(9, 1), 987);
        check.due("the first of die 2", x.threw(3, 1), 983);
        check.due("die 1 ahead of die 2", x.threw(2, 1), 927);
        check.due("die 0 last", x.threw(1, 1), 187);
        check.due("the very last", x.threw(6, 1), 123);
        x = Check.harbour("d1;d1 2;d9;b18;");
        check.due("two alike do not turn the wind", x.threw(1, 1), 119);
        x.throwsDice(1, 1, 9);
        check.due("two alike do not turn it, in wind 1", x.threw(18, 1), 119);
        check.due("all nines", Check.harbour("d9;d9;d9;").threw(9, 1), 999);
    }

    private static void threwNone() {
        check.sentence("THREW: how many (what = 0), the first (1; NONE). BAD.");
        TideDice x = Check.harbour("d9;d9;d9;b17;");
        check.due("how many, none", x.threw(1, 0), 0);
        check.due("the first, none", x.threw(1, 1), NONE);
        check.due("the first, one", x.threw(9, 1), 999);
        check.due("how many, all", x.threw(9, 0), 1);
    }

    private static void threwRefused() {
        check.sentence("THREW: how many (what = 0), the first (1; NONE). BAD.");
        TideDice x = new TideDice();
        for (int b : new int[] {0, 13, -1, 33, LEAST, MOST}) {
            check.due("threw(" + b + ", 0)", x.threw(b, 0), BAD);
            check.due("threw(" + b + ", 1)", x.threw(b, 1), BAD);
        }
        for (int what : new int[] {-1, 2, LEAST, MOST}) {
            check.due("threw(12, " + what + ")", x.threw(12, what), BAD);
        }
        check.due("threw(12, 0)", x.threw(12, 0), 41);
    }

    private static void beat(TideDice x, int i, int j, int upper, int lower) {
        fraction("beats(" + i + ", " + j + ")", x.beats(i, j, 0), x.beats(i, j, 1), upper, lower);
    }

    private static void beats() {
        check.sentence("how often i shows more than j, of all PIPS of both: a fraction");
        TideDice x = Check.harbour("d9;d1 2;d2 9 9;");
        beat(x, 0, 1, 1, 1);
        beat(x, 1, 0, 0, 1);
        beat(x, 0, 2, 1, 3);
        beat(x, 2, 0, 0, 1);
        beat(x, 2, 1, 5, 6);
        beat(x, 1, 2, 0, 1);
        beat(new TideDice(), 2, 0, 5, 12);
        beat(Check.harbour("d4;d4;d4;"), 0, 1, 0, 1);
    }

    private static void beatsRefused() {
        check.sentence("BEATS: upper (what = 0), lower number (1), in least terms. BAD (alike ones, too).");
        TideDice x = Check.harbour("d9;d1 2;d2 9 9;");
        for (int i = 0; i < 3; i++) {
            check.due("beats, alike ones " + i, x.beats(i, i, 0), BAD);
            check.due("beats, alike ones " + i, x.beats(i, i, 1), BAD);
            for (int j : new int[] {-1, 3, LEAST, MOST}) {
                check.due("beats(" + i + ", " + j + ", 0)", x.beats(i, j, 0), BAD);
                check.due("beats(" + j + ", " + i + ", 0)", x.beats(j, i, 0), BAD);
                check.due("beats(" + i + ", next, " + (j == 3 ? 2 : j) + ")",
                    x.beats(i, (i + 1) % 3, j == 3 ? 2 : j), BAD);
            }
        }
        check.due("beats(3, 3, 0)", x.beats(3, 3, 0), BAD);
        check.due("beats(-1, -1, 1)", x.beats(-1, -1, 1), BAD);
    }

    private static void ringEitherWay() {
        check.sentence("whether 0 beats 1, 1 beats 2, 2 beats 0 more often than not, each (1), the other way round (2), neither (0)");
        // The latter are of one pip and of three.
        for (String[] ringed : new String[][] {{"d2 4 9;", "d1 6 8;", "d3 5 7;"}, {"d3;", "d2 2 5;", "d1 4 4;"}}) {
            for (int i = 0; i < 3; i++) {
                int j = (i + 1) % 3;
                int k = (i + 2) % 3;
                check.due("ring, one way", Check.harbour(ringed[i] + ringed[j] + ringed[k]).ring(), 1);
                check.due("ring, the other way", Check.harbour(ringed[k] + ringed[j] + ringed[i]).ring(), 2);
            }
        }
        check.due("all alike", new TideDice().ring(), 0);
        // Each order of 1, 2, 3 breaks the ring at another place, either way.
        for (String text : new String[] {"d3;d2;d1;", "d2;d1;d3;", "d1;d3;d2;", "d1;d2;d3;", "d2;d3;d1;", "d3;d1;d2;"}) {
            check.due("ring of " + text, Check.harbour(text).ring(), 0);
        }
    }

    private static void ringMoreOftenThanNot() {
        check.sentence("more often than not");
        // One of two is half; the other two are won by two of three.
        String[] half = {"d1 4;", "d3;", "d2 2 5;"};
        for (int i = 0; i < 3; i++) {
            int j = (i + 1) % 3;
            int k = (i + 2) % 3;
            check.due("ring, half", Check.harbour(half[i] + half[j] + half[k]).ring(), 0);
            check.due("ring, half, the other way", Check.harbour(half[k] + half[j] + half[i]).ring(), 0);
        }
        // The third shows more than the first four times of nine, less three times, alike twice.
        String[] alike = {"d2 2 5;", "d1 4 4;", "d2 3 3;"};
        for (int i = 0; i < 3; i++) {
            int j = (i + 1) % 3;
            int k = (i + 2) % 3;
            check.due("ring, alike ones", Check.harbour(alike[i] + alike[j] + alike[k]).ring(), 0);
            check.due("ring, alike ones, the other way", Check.harbour(alike[k] + alike[j] + alike[i]).ring(), 0);
        }
    }
}
