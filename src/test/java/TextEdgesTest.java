/** The edges that part 1 of the Terms and promises 1 to 5 name, a test for each sentence. */
final class TextEdgesTest {
    private static final int NONE = TideDice.NONE, BAD = TideDice.BAD, FULL = TideDice.FULL;
    private static final Check check = new Check();

    public static void main(String[] args) {
        newObject();
        oneToSixPips();
        pipsOneToNine();
        pipsAtFirst();
        berthsThreeToEighteen();
        goalOneToNine();
        textOf120Bytes();
        blanksBetweenTokens();
        noOtherByteIsABlank();
        endedByASemicolon();
        threeDiceInTheirOrder();
        berthsAndGoalOnce();
        lettersSideBySide();
        everyByteAlone();
        everyByteBehindANumber();
        lettersThatBeginNoItem();
        aFourthDie();
        aSeventhPip();
        toldAgain();
        beyondWhatItMayBe();
        aByteThatBeginsNone();
        above99();
        aZeroAhead();
        endsTooEarly();
        theFirstOfSeveral();
        bytesThatCome();
        clearing();
        tellsAllAndIsEmpty();
        howManyItems();
        aFaultLeavesTheText();
        pipsOfADie();
        check.end();
    }

    private static TideDice reads(String text, int items) {
        TideDice x = new TideDice();
        Check.type(x, text);
        check.due("harbour of '" + text + "'", x.harbour(), items);
        return x;
    }

    private static void fault(String text, int place) {
        reads(text, -10 - place);
    }

    private static void newObject() {
        check.sentence("As told; three dice, twelve berths.");
        TideDice x = new TideDice();
        check.due("die(2, -1)", x.die(2, -1), 6);
        check.due("die(3, -1)", x.die(3, -1), BAD);
        check.due("berth(12)", x.berth(12), NONE);
        check.due("berth(13)", x.berth(13), BAD);
        int[] first = {12, 4, 216, 0, 0, 0};
        for (int what = 0; what < 6; what++) {
            check.due("count(" + what + ")", x.count(what), first[what]);
        }
        check.due("back(0)", x.back(0), TideDice.STATE);
        check.due("back(1)", x.back(1), TideDice.STATE);
        check.due("trace()", x.trace(), 0);
        // What one object is told is not another one's.
        Check.type(x, "d1;d1;d1;b3;g1;");
        x.harbour();
        x.mark(0, 1);
        TideDice other = new TideDice();
        check.due("another one's throws", other.count(2), 216);
        check.due("another one's berths", other.count(0), 12);
        check.due("another one's trace", other.trace(), 0);
    }

    private static void oneToSixPips() {
        check.sentence("1 to 6 PIPS each");
        check.due("one pip", reads("d1;", 1).die(0, -1), 1);
        check.due("six pips", reads("d1 2 3 4 5 6;", 1).die(0, -1), 6);
        check.due("one pip of die 2", reads("d1 2;d1 2;d1;", 3).die(2, -1), 1);
        check.due("six pips of die 2", reads("d1;d1;d9 8 7 6 5 4;", 3).die(2, 5), 4);
        fault("d;", 1);
        fault("d1;d;", 4);
        fault("d1;d1;d ;", 8);
        fault("d1 2 3 4 5 6 7;", 13);
        fault("d1;d1 1 1 1 1 1 1;", 16);
        fault("d1;d1;d1 1 1 1 1 1 1;", 19);
    }

    private static void pipsOneToNine() {
        check.sentence("(1 .. 9;");
        for (int pip = 1; pip <= 9; pip++) {
            TideDice x = reads("d" + pip + ";d1 " + pip + ";d1;", 3);
            check.due("die(0, 0)", x.die(0, 0), pip);
            check.due("die(1, 1)", x.die(1, 1), pip);
        }
        for (int pip : new int[] {0, 10, 11, 19, 90, 99}) {
            fault("d" + pip + ";", 1);
            fault("d1;d1 " + pip + ";", 6);
        }
    }

    private static void pipsAtFirst() {
        check.sentence("1, 2, 3, 4, 5, 6 at first)");
        TideDice x = new TideDice();
        TideDice y = reads("", 0);
        for (int d = 0; d < 3; d++) {
            check.due("how many", x.die(d, -1), 6);
            check.due("how many, told by nothing", y.die(d, -1), 6);
            for (int i = 0; i < 6; i++) {
                check.due("die(" + d + ", " + i + ")", x.die(d, i), i + 1);
                check.due("die(" + d + ", " + i + "), told by nothing", y.die(d, i), i + 1);
            }
        }
    }

    private static void berthsThreeToEighteen() {
        check.sentence("BERTHS 1 .. as many as are told (3 .. 18; 12 at first)");
        check.due("at first", new TideDice().count(0), 12);
        for (int n = 3; n <= 18; n++) {
            TideDice x = reads("b" + n + ";", 1);
            check.due("count(0)", x.count(0), n);
            check.due("berth(0) of " + n, x.berth(0), BAD);
            check.due("berth(1) of " + n, x.berth(1), NONE);
            check.due("berth(n) of " + n, x.berth(n), NONE);
            check.due("berth(n + 1) of " + n, x.berth(n + 1), BAD);
        }
        for (int n : new int[] {0, 1, 2, 19, 20, 99}) {
            fault("b" + n + ";", 1);
        }
    }

    private static void goalOneToNine() {
        check.sentence("GOAL (1 .. 9 BERTHS; 4 at first)");
        check.due("at first", new TideDice().count(1), 4);
        for (int n = 1; n <= 9; n++) {
            check.due("count(1)", reads("g" + n + ";", 1).count(1), n);
        }
        check.due("a goal above the berths", reads("b3;g9;", 2).count(1), 9);
        for (int n : new int[] {0, 10, 11, 99}) {
            fault("g" + n + ";", 1);
        }
    }

    private static void textOf120Bytes() {
        check.sentence("They are a text (120 bytes at most)");
        TideDice x = new TideDice();
        String text = " ".repeat(115) + "b 15;";
        for (int i = 0; i < 120; i++) {
            check.due("type, the " + (i + 1) + "-th", x.type(text.charAt(i)), i + 1);
        }
        check.due("type, the 121st", x.type('x'), FULL);
        check.due("count(5)", x.count(5), 120);
        check.due("harbour, all 120 and no more", x.harbour(), 1);
        check.due("count(0)", x.count(0), 15);
        check.due("type, behind it", x.type('x'), 1);
    }

    private static void blanksBetweenTokens() {
        check.sentence("blanks (32) between TOKENS");
        String[] same = {"d1 2;b15;", " d1 2;b15;", "d1 2;b15; ", "d 1  2 ; b 15 ;", "   d   1   2   ;   b   15   ;   "};
        for (String text : same) {
            TideDice x = reads(text, 2);
            check.due("pips of '" + text + "'", x.die(0, -1), 2);
            check.due("berths of '" + text + "'", x.count(0), 15);
        }
        reads(" ", 0);
        reads(" ".repeat(120), 0);
        check.due("side by side", reads("b12;", 1).count(0), 12);
        fault("b1 2;", 1);
        fault("g1 2;", 3);
        fault("d 1 2 3 4 5 6 7;", 14);
    }

    private static void noOtherByteIsABlank() {
        check.sentence("blanks (32)");
        for (int c : new int[] {0, 9, 10, 11, 12, 13, 28, 31, 33, 127, 133, 160, 255}) {
            fault("d" + (char) c + "1;", 1);
            fault("d1" + (char) c + ";", 2);
            fault("d1;" + (char) c, 3);
        }
    }

    private static void endedByASemicolon() {
        check.sentence("ITEMS, each letters and what is told, ended by ;");
        fault("d1", 2);
        fault("b3", 2);
        fault("g3", 2);
        fault("d1 b3;", 3);
        fault("b3 g4;", 3);
        fault("g4 d1;", 3);
        fault(";", 0);
        fault("d1;;", 3);
        fault("b3;;", 3);
        fault("b;3;", 1);
        fault("1;", 0);
        fault("d1;2;", 3);
        fault("d1:", 2);
    }

    private static void threeDiceInTheirOrder() {
        check.sentence("the next one of the DICE, three times at most");
        TideDice x = reads("b5;d7;g2;d8 9;d4;", 5);
        check.due("die 0", x.die(0, 0), 7);
        check.due("die 1", x.die(1, 1), 9);
        check.due("die 2", x.die(2, 0), 4);
        x = reads("d7;d8;", 2);
        check.due("die 2, not told", x.die(2, -1), 6);
        x = reads("d7;", 1);
        check.due("die 1, not told", x.die(1, -1), 6);
        Check.type(x, "d5;");
        check.due("another text", x.harbour(), 1);
        check.due("die 0 anew", x.die(0, 0), 5);
        check.due("die 1 anew", x.die(1, -1), 6);
    }

    private static void berthsAndGoalOnce() {
        check.sentence("b, g once each at most");
        TideDice x = reads("g2;b15;", 2);
        check.due("berths", x.count(0), 15);
        check.due("goal", x.count(1), 2);
        Check.type(x, "b14;g3;");
        check.due("in another text again", x.harbour(), 2);
        check.due("berths", x.count(0), 14);
        check.due("goal", x.count(1), 3);
        fault("b3;b4;", 3);
        fault("g3;g4;", 3);
        fault("b3 3;", 3);
        fault("g3 3;", 3);
        fault("b;", 1);
        fault("g;", 1);
    }

    private static void lettersSideBySide() {
        check.sentence("TOKENS are letters a .. z side by side");
        for (String letters : new String[] {"da", "dz", "dd", "bb", "gg", "db", "bg", "ad", "zb"}) {
            fault(letters + "3;", 0);
        }
        fault("d d1;", 2);
        // 96 and 123 stand beside a and z, and are none.
        for (int c : new int[] {96, 123, 'A', 'Z', 'D', 'B', 'G'}) {
            fault("d" + (char) c + "1;", 1);
            fault((char) c + "1;", 0);
        }
    }

    private static void everyByteAlone() {
        check.sentence("letters that begin no ITEM");
        for (int c = 0; c <= 255; c++) {
            boolean begins = c == 'd' || c == 'b' || c == 'g';
            reads("" + (char) c, c == ' ' ? 0 : begins ? -11 : -10);
        }
    }

    private static void everyByteBehindANumber() {
        check.sentence("NUMBERS and ;");
        for (int c = 0; c <= 255; c++) {
            boolean digit = c >= '0' && c <= '9';
            int due = c == ';' ? 1 : c == ' ' ? -13 : digit ? -11 : -12;
            reads("d1" + (char) c, due);
        }
    }

    private static void lettersThatBeginNoItem() {
        check.sentence("letters that begin no ITEM");
        fault("x3;", 0);
        fault("  x3;", 2);
        fault("d1;x3;", 3);
        fault("d1; dice 3;", 4);
        fault("d x;", 2);
        fault("b b3;", 2);
    }

    private static void aFourthDie() {
        check.sentence("a fourth die");
        fault("d1;d2;d3;d4;", 9);
        fault("d1;d2;d3; d", 10);
        fault("d1;d2;d3;b5;g2;d4;", 15);
        reads("d1;d2;d3;", 3);
    }

    private static void aSeventhPip() {
        check.sentence("a seventh PIP");
        fault("d1 2 3 4 5 6 7;", 13);
        fault("d1 2 3 4 5 6   7", 15);
        fault("d1 2 3 4 5 6 10;", 13);
        fault("d1 2 3 4 5 6 01;", 13);
        fault("d1;d1 2 3 4 5 6 6;", 16);
    }

    private static void toldAgain() {
        check.sentence("b, g again");
        fault("b3;b3;", 3);
        fault("g1;g1;", 3);
        fault("b3;g1;b3;", 6);
        fault("g1;b3;g1;", 6);
        fault("b3;d1; b", 7);
    }

    private static void beyondWhatItMayBe() {
        check.sentence("a NUMBER beyond what it may be, too");
        fault("d0;", 1);
        fault("d10;", 1);
        fault("d1 2 0;", 5);
        fault("b2;", 1);
        fault("b 19;", 2);
        fault("g0;", 1);
        fault("g 10;", 2);
    }

    private static void aByteThatBeginsNone() {
        check.sentence("of a byte that begins none");
        fault("D1;", 0);
        fault("d1,2;", 2);
        fault("d-1;", 1);
        fault("d+1;", 1);
        fault("d1.5;", 2);
        fault("d1;" + (char) 255, 3);
        fault("" + (char) 0, 0);
        // Beside 0 and 9, and beside ; .
        fault("d/;", 1);
        fault("d:;", 1);
        fault("d1<", 2);
    }

    private static void above99() {
        check.sentence("a NUMBER above 99");
        fault("g99;", 1);
        fault("g100;", 1);
        fault("d1 100;", 3);
        // Each would be in its bounds if it were cut to 8, 16, 32 or 64 bits.
        fault("b259;", 1);
        fault("b65539;", 1);
        fault("b4294967299;", 1);
        fault("b18446744073709551619;", 1);
        fault("g" + "9".repeat(119), 1);
        fault("g1" + "0".repeat(118), 1);
    }

    private static void aZeroAhead() {
        check.sentence("or with a 0 ahead of others");
        fault("d01;", 1);
        fault("d00;", 1);
        fault("d 09;", 2);
        fault("d1 02;", 3);
        fault("b012;", 1);
        fault("g004;", 1);
        fault("g" + "0".repeat(118) + "1", 1);
        check.due("a 0 behind is none ahead", reads("b10;", 1).count(0), 10);
    }

    private static void endsTooEarly() {
        check.sentence("the text's length, if it ends too early");
        String whole = "d1 2;b3;g4;";
        for (int length = 0; length <= whole.length(); length++) {
            int items = length == 0 ? 0 : length == 5 ? 1 : length == 8 ? 2 : length == 11 ? 3 : -1;
            String begun = whole.substring(0, length);
            reads(begun, items >= 0 ? items : -10 - length);
            reads(begun + "  ", items >= 0 ? items : -12 - length);
        }
        fault("d" + " ".repeat(119), 120);
        fault(" ".repeat(119) + "g", 120);
    }

    private static void theFirstOfSeveral() {
        check.sentence("the first TOKEN that can't stand there");
        fault("d1 x 0 100 01 ?", 3);
        fault("d ? x", 2);
        fault("d 01 ?", 2);
        fault("x ?", 0);
        fault("b2;b2;", 1);
        fault("d1;d2;d3;d;x", 9);
        fault("? d1;", 0);
    }

    private static void bytesThatCome() {
        check.sentence("A byte (0 .. 255) comes to THE TEXT: how many it has. BAD; FULL.");
        TideDice x = new TideDice();
        for (int c : new int[] {-1, 256, 288, -224, Integer.MIN_VALUE, Integer.MAX_VALUE}) {
            check.due("type(" + c + ")", x.type(c), BAD);
        }
        check.due("count(5), none came", x.count(5), 0);
        check.due("type(0)", x.type(0), 1);
        check.due("type(255)", x.type(255), 2);
        for (int i = 3; i <= 120; i++) {
            x.type(32);
        }
        check.due("type(0), full", x.type(0), FULL);
        check.due("type(255), full", x.type(255), FULL);
        check.due("type(-1), BAD ahead of FULL", x.type(-1), BAD);
        check.due("type(256), BAD ahead of FULL", x.type(256), BAD);
        check.due("count(5), full", x.count(5), 120);
    }

    private static void clearing() {
        check.sentence("THE TEXT is empty: how many bytes it had.");
        TideDice x = new TideDice();
        check.due("clear, empty", x.clear(), 0);
        x.type('x');
        check.due("clear, one", x.clear(), 1);
        check.due("clear, empty again", x.clear(), 0);
        for (int i = 0; i < 130; i++) {
            x.type('1');
        }
        check.due("clear, full", x.clear(), 120);
        check.due("count(5)", x.count(5), 0);
        // Digits and letters of the text that was must not go on behind the new one.
        Check.type(x, "b1");
        check.due("harbour, a number ends the text", x.harbour(), -11);
        x.clear();
        Check.type(x, "dddd");
        x.clear();
        x.type('d');
        check.due("harbour, letters end the text", x.harbour(), -11);
    }

    private static void tellsAllAndIsEmpty() {
        check.sentence("THE TEXT tells all, and is empty then: how many ITEMS.");
        TideDice x = reads("d7;d7;d7;b15;g2;", 5);
        check.due("count(5)", x.count(5), 0);
        check.due("clear()", x.clear(), 0);
        check.due("harbour, an empty text", x.harbour(), 0);
        check.due("dice as at first", x.count(2), 216);
        check.due("berths as at first", x.count(0), 12);
        check.due("goal as at first", x.count(1), 4);
    }

    private static void howManyItems() {
        check.sentence("how many ITEMS");
        reads("", 0);
        reads("d1;", 1);
        reads("d1;d1;", 2);
        reads("d1;d1;d1;", 3);
        reads("d1;d1;d1;g1;", 4);
        reads("b3;d1;d1;d1;g1;", 5);
    }

    private static void aFaultLeavesTheText() {
        check.sentence("-10 less FAULT: nothing changes.");
        TideDice x = new TideDice();
        Check.type(x, "d7;b15;g");
        for (int again = 0; again < 2; again++) {
            check.due("harbour, ends too early", x.harbour(), -18);
            check.due("count(5)", x.count(5), 8);
            check.due("die(0, -1)", x.die(0, -1), 6);
            check.due("count(0)", x.count(0), 12);
        }
        Check.type(x, "2;");
        check.due("harbour, gone on with", x.harbour(), 3);
        check.due("count(1)", x.count(1), 2);
        check.due("a fault at 0", reads("x", -10).count(5), 1);
    }

    private static void pipsOfADie() {
        check.sentence("The i-th PIP of a DIE; how many (i = -1). BAD.");
        TideDice x = reads("d9;d8 7;d6 5 4;", 3);
        int[][] pips = {{9}, {8, 7}, {6, 5, 4}};
        for (int d = 0; d < 3; d++) {
            check.due("die(" + d + ", -2)", x.die(d, -2), BAD);
            check.due("die(" + d + ", -1)", x.die(d, -1), pips[d].length);
            for (int i = 0; i < pips[d].length; i++) {
                check.due("die(" + d + ", " + i + ")", x.die(d, i), pips[d][i]);
            }
            check.due("die(" + d + ", one too many)", x.die(d, pips[d].length), BAD);
            check.due("die(" + d + ", most)", x.die(d, Integer.MAX_VALUE), BAD);
            check.due("die(" + d + ", least)", x.die(d, Integer.MIN_VALUE), BAD);
        }
        for (int d : new int[] {-1, 3, Integer.MIN_VALUE, Integer.MAX_VALUE}) {
            check.due("die(" + d + ", 0)", x.die(d, 0), BAD);
            check.due("die(" + d + ", -1)", x.die(d, -1), BAD);
        }
    }
}
