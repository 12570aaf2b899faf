/** Counts answers that are due, prints those that are not, and tells a harbour by a text. */
final class Check {
    private int passed;
    private int failed;
    private String words = "";
    private int passedAhead;
    private int failedAhead;

    /** From here on it is these words of the document that are held. */
    void sentence(String quoted) {
        endSentence();
        words = quoted;
    }

    /** A sentence that nothing was asked of is not held. */
    private void endSentence() {
        if (!words.isEmpty() && passed == passedAhead && failed == failedAhead) {
            failed++;
            System.out.println("\"" + words + "\" has no check");
        }
        passedAhead = passed;
        failedAhead = failed;
    }

    void due(String call, long got, long want) {
        if (got == want) {
            passed++;
        } else {
            failed++;
            String of = words.isEmpty() ? "" : " (\"" + words + "\")";
            System.out.println(call + " answered " + got + ", due is " + want + of);
        }
    }

    void isTrue(String what, boolean holds) {
        due(what, holds ? 1 : 0, 1);
    }

    void end() {
        endSentence();
        System.out.println(passed + " passed, " + failed + " failed");
        if (failed != 0 || passed == 0) {
            System.exit(1);
        }
    }

    static void type(TideDice x, String text) {
        for (int i = 0; i < text.length(); i++) {
            x.type(text.charAt(i));
        }
    }

    static TideDice harbour(String text) {
        TideDice x = new TideDice();
        type(x, text);
        if (x.harbour() < 0) {
            throw new IllegalStateException("a test's own text is refused: " + text);
        }
        return x;
    }

    static int bits(int... places) {
        int bits = 0;
        for (int place : places) {
            bits |= 1 << place;
        }
        return bits;
    }
}
