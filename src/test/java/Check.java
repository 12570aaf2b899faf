/** Counts answers that are due, prints those that are not, and tells a harbour by a text. */
final class Check {
    private int passed;
    private int failed;

    void due(String call, long got, long want) {
        if (got == want) {
            passed++;
        } else {
            failed++;
            System.out.println(call + " answered " + got + ", due is " + want);
        }
    }

    void isTrue(String what, boolean holds) {
        due(what, holds ? 1 : 0, 1);
    }

    void end() {
        System.out.println(passed + " passed, " + failed + " failed");
        if (failed != 0 || passed == 0) {
            System.exit(1);
        }
    }

    static void type(TideDice x, String text) {
        for (int i = 0; i < text.length(); i++) {
            x.type(text.charAt(i));
        }
    }

    static TideDice harbour(String text) {
        TideDice x = new TideDice();
        type(x, text);
        if (x.harbour() < 0) {
            throw new IllegalStateException("a test's own text is refused: " + text);
        }
        return x;
    }

    static int bits(int... places) {
        int bits = 0;
        for (int place : places) {
            bits |= 1 << place;
        }
        return bits;
    }
}
