import java.util.ArrayList;
import java.util.List;

/** Of twins one is refused a call, or only asked something: behind it they answer alike, whatever is done then. */
final class RefusedTest {
    private static final int BAD = TideDice.BAD, STATE = TideDice.STATE, FULL = TideDice.FULL, NO = TideDice.NO;
    private static final Check check = new Check();

    private interface Scene {
        TideDice made();
    }

    private interface Call {
        long on(TideDice x);
    }

    /** Reads an object to the end in one way, and may change it. */
    private interface Probe {
        void of(TideDice x, List<Long> answers);
    }

    private static final Probe[] PROBES = {
        RefusedTest::allAsked, RefusedTest::allUndone,
        (x, answers) -> wentBack(0, x, answers), (x, answers) -> wentBack(1, x, answers),
        RefusedTest::textRead, RefusedTest::wipedAndCleared};

    public static void main(String[] args) {
        check.sentence("BAD (a number is not as told, or there is no such thing)");
        for (Scene scene : scenes()) {
            numbersNotAsTold(scene);
        }
        statesRefused();
        fullRefused();
        faultsRefused();
        askingChangesNothing();
        marksChangeTheTraceAlone();
        check.end();
    }

    // ---- scenes

    private static Scene[] scenes() {
        return new Scene[] {TideDice::new, RefusedTest::oneLiesOpen, RefusedTest::oneLiesIdle, RefusedTest::won,
            RefusedTest::full, RefusedTest::faulty};
    }

    private static TideDice oneLiesOpen() {
        TideDice x = new TideDice();
        x.throwsDice(5, 5, 5);
        x.takes(5);
        x.keep(0);
        x.chalks(1, 82);
        x.chalks(2, 3);
        x.mark(4, 1);
        Check.type(x, "b 5;");
        x.throwsDice(1, 1, 4);
        return x;
    }

    private static TideDice oneLiesIdle() {
        TideDice x = Check.harbour("b3;");
        x.keep(1);
        x.throwsDice(6, 6, 6);
        x.passes();
        x.throwsDice(4, 4, 6);
        x.keep(0);
        x.leaves();
        Check.type(x, "g 5;");
        return x;
    }

    private static TideDice won() {
        TideDice x = Check.harbour("g1;");
        x.throwsDice(6, 6, 6);
        x.keep(0);
        x.leaves();
        x.takes(12);
        x.keep(1);
        Check.type(x, "g 2;");
        x.chalks(12, 0);
        return x;
    }

    private static TideDice full() {
        TideDice x = Check.harbour("b18;g9;");
        x.throwsDice(1, 2, 6);
        for (int i = 0; i < 15; i++) {
            x.leaves();
        }
        x.keep(0);
        x.takes(9);
        x.throwsDice(2, 2, 4);
        x.keep(1);
        for (int k = 0; k < 6; k++) {
            x.chalks(k + 1, 40 * k);
        }
        Check.type(x, " ".repeat(116) + "b 5;");
        return x;
    }

    private static TideDice faulty() {
        TideDice x = Check.harbour("d7 1 2;b15;g2;");
        x.throwsDice(7, 1, 1);
        x.keep(0);
        x.chalks(15, 3);
        Check.type(x, "d2;b4;g3;d");
        return x;
    }

    // ---- what twins are asked

    private static void allAsked(TideDice x, List<Long> answers) {
        for (int d = 0; d < 3; d++) {
            for (int i = -1; i < 6; i++) {
                answers.add((long) x.die(d, i));
            }
        }
        for (int b = 1; b <= x.count(0); b++) {
            answers.add((long) x.berth(b));
            answers.add((long) x.chance(b, 0));
            answers.add((long) x.chance(b, 1));
            answers.add((long) x.threw(b, 0));
            answers.add((long) x.threw(b, 1));
            answers.add((long) x.third(x.die(0, 0), x.die(1, 0), b));
        }
        for (int n = 0; n < 6; n++) {
            answers.add((long) x.odds(n / 2, n % 2));
            answers.add((long) x.off(n));
        }
        answers.add((long) x.wise(0));
        answers.add((long) x.wise(1));
        answers.add((long) x.cheap());
        answers.add((long) x.ever());
        answers.add((long) x.wrong());
        answers.add((long) x.bet());
        answers.add((long) x.ring());
        answers.add((long) x.beats(0, 1, 0));
        answers.add((long) x.player(0, 3));
        answers.add((long) x.player(1, 3));
        answers.add(x.trace());
        shortly(x, answers);
    }

    private static void shortly(TideDice x, List<Long> answers) {
        for (int what = 0; what < 6; what++) {
            answers.add((long) x.now(what));
            answers.add((long) x.count(what));
        }
        for (int what = 0; what < 3; what++) {
            answers.add((long) x.player(0, what));
            answers.add((long) x.player(1, what));
        }
    }

    private static void allUndone(TideDice x, List<Long> answers) {
        for (int i = 0; i < 13; i++) {
            answers.add((long) x.undo());
            shortly(x, answers);
        }
    }

    private static void wentBack(int image, TideDice x, List<Long> answers) {
        answers.add((long) x.back(image));
        allUndone(x, answers);
    }

    private static void textRead(TideDice x, List<Long> answers) {
        answers.add((long) x.harbour());
        allAsked(x, answers);
        answers.add((long) x.back(0));
        answers.add((long) x.back(1));
    }

    private static void wipedAndCleared(TideDice x, List<Long> answers) {
        answers.add((long) x.clear());
        answers.add((long) x.wipes());
        allAsked(x, answers);
    }

    private static void changesNothing(String name, Scene scene, Call call) {
        for (Probe probe : PROBES) {
            TideDice twin = scene.made();
            TideDice asked = scene.made();
            call.on(asked);
            List<Long> due = new ArrayList<>();
            List<Long> got = new ArrayList<>();
            probe.of(twin, due);
            probe.of(asked, got);
            check.isTrue(name + " changes nothing: " + got + " is " + due, got.equals(due));
        }
    }

    private static void refused(String name, Scene scene, long due, Call call) {
        check.due(name, call.on(scene.made()), due);
        changesNothing(name, scene, call);
    }

    // ---- what is refused

    private static void numbersNotAsTold(Scene scene) {
        int beyond = scene.made().count(0) + 1;
        for (int far : new int[] {-1, beyond, 33, Integer.MIN_VALUE, Integer.MAX_VALUE}) {
            refused("berth", scene, BAD, x -> x.berth(far));
            refused("takes", scene, BAD, x -> x.takes(far));
            refused("chalks", scene, BAD, x -> x.chalks(far, 1));
            refused("chance", scene, BAD, x -> x.chance(far, 0));
            refused("third", scene, BAD, x -> x.third(x.die(0, 0), x.die(1, 0), far));
            refused("threw", scene, BAD, x -> x.threw(far, 0));
            refused("mark", scene, NO, x -> x.mark(1, far));
            refused("keep", scene, BAD, x -> x.keep(far));
            refused("back", scene, BAD, x -> x.back(far));
            refused("off", scene, NO, x -> x.off(far < 6 ? far : far + 3));
        }
        for (int far : new int[] {-1, 7, Integer.MIN_VALUE, Integer.MAX_VALUE}) {
            refused("die", scene, BAD, x -> x.die(far, 0));
            refused("die", scene, BAD, x -> x.die(0, far == -1 ? -2 : far));
            refused("player", scene, BAD, x -> x.player(far, 0));
            refused("player", scene, BAD, x -> x.player(0, far));
            refused("now", scene, NO, x -> x.now(far));
            refused("chance", scene, BAD, x -> x.chance(1, far));
            refused("odds", scene, BAD, x -> x.odds(far, 0));
            refused("odds", scene, BAD, x -> x.odds(1, far));
            refused("wise", scene, BAD, x -> x.wise(far));
            refused("threw", scene, BAD, x -> x.threw(1, far));
            refused("beats", scene, BAD, x -> x.beats(far, 0, 0));
            refused("beats", scene, BAD, x -> x.beats(0, far, 0));
            refused("beats", scene, BAD, x -> x.beats(0, 1, far));
            refused("mark", scene, NO, x -> x.mark(far, 1));
            refused("count", scene, BAD, x -> x.count(far));
            refused("type", scene, BAD, x -> x.type(far == 7 ? 256 : far));
            refused("chalks", scene, BAD, x -> x.chalks(1, far == 7 ? 217 : far));
        }
        for (int far : new int[] {-1, 0, 10, Integer.MIN_VALUE, Integer.MAX_VALUE}) {
            refused("throwsDice", scene, BAD, x -> x.throwsDice(far, 1, 1));
            refused("throwsDice", scene, BAD, x -> x.throwsDice(x.die(0, 0), far, 1));
            refused("throwsDice", scene, BAD, x -> x.throwsDice(x.die(0, 0), 1, far));
            refused("third", scene, BAD, x -> x.third(far, 1, 1));
            refused("third", scene, BAD, x -> x.third(x.die(0, 0), far, 1));
        }
        refused("beats, alike ones", scene, BAD, x -> x.beats(1, 1, 0));
    }

    private static void statesRefused() {
        check.sentence("STATE (as told)");
        refused("takes, nothing lies", TideDice::new, STATE, x -> x.takes(1));
        refused("passes, nothing lies", TideDice::new, STATE, TideDice::passes);
        refused("leaves, nothing lies", TideDice::new, STATE, TideDice::leaves);
        refused("undo, none", TideDice::new, STATE, TideDice::undo);
        refused("back, none was kept", TideDice::new, STATE, x -> x.back(0));
        refused("throwsDice, one lies", RefusedTest::oneLiesOpen, STATE, x -> x.throwsDice(2, 2, 2));
        refused("takes, it is not open", RefusedTest::oneLiesOpen, STATE, x -> x.takes(1));
        refused("takes, it is somebody's", RefusedTest::oneLiesOpen, STATE, x -> x.takes(5));
        refused("passes, something is open", RefusedTest::oneLiesOpen, STATE, TideDice::passes);
        refused("back, none was kept", RefusedTest::oneLiesOpen, STATE, x -> x.back(1));
        refused("throwsDice, one lies", RefusedTest::oneLiesIdle, STATE, x -> x.throwsDice(1, 2, 3));
        refused("takes, nothing is open", RefusedTest::oneLiesIdle, STATE, x -> x.takes(3));
        refused("throwsDice, won", RefusedTest::won, STATE, x -> x.throwsDice(1, 1, 2));
        refused("takes, won", RefusedTest::won, STATE, x -> x.takes(6));
        refused("passes, won", RefusedTest::won, STATE, TideDice::passes);
        refused("leaves, won", RefusedTest::won, STATE, TideDice::leaves);
    }

    private static void fullRefused() {
        check.sentence("FULL");
        refused("type, full", RefusedTest::full, FULL, x -> x.type('x'));
        refused("type, full", RefusedTest::full, FULL, x -> x.type(0));
        refused("chalks, full", RefusedTest::full, FULL, x -> x.chalks(1, 1));
        refused("chalks, full", RefusedTest::full, FULL, x -> x.chalks(18, 216));
    }

    private static void faultsRefused() {
        check.sentence("-10 less FAULT: nothing changes.");
        refused("harbour, ends too early", RefusedTest::faulty, -20, TideDice::harbour);
        String[] texts = {"d1;d1;d1;b3;g1;x", "b18;g9;g", "d9;d8;d7;d", "d9 9 9 9 9 9 9", "?"};
        int[] places = {15, 7, 9, 13, 0};
        for (int i = 0; i < texts.length; i++) {
            String text = texts[i];
            for (Scene scene : new Scene[] {RefusedTest::oneLiesOpen, RefusedTest::oneLiesIdle, RefusedTest::won}) {
                Scene told = () -> {
                    TideDice x = scene.made();
                    x.clear();
                    Check.type(x, text);
                    return x;
                };
                refused("harbour of '" + text + "'", told, -10 - places[i], TideDice::harbour);
            }
        }
    }

    private static void askingChangesNothing() {
        check.sentence("(Nothing is changed;");
        for (Scene scene : scenes()) {
            for (int n = 0; n < 2; n++) {
                int what = n;
                changesNothing("die", scene, x -> x.die(0, -what));
                changesNothing("berth", scene, x -> x.berth(1 + what));
                changesNothing("chance", scene, x -> x.chance(1, what));
                changesNothing("wise", scene, x -> x.wise(what));
                changesNothing("threw", scene, x -> x.threw(3, what));
                changesNothing("beats", scene, x -> x.beats(0, 1, what));
                for (int which = 0; which < 3; which++) {
                    int of = which;
                    changesNothing("odds", scene, x -> x.odds(of, what));
                }
                for (int asked = 0; asked < 4; asked++) {
                    int of = asked;
                    changesNothing("player", scene, x -> x.player(what, of));
                }
            }
            for (int n = 0; n < 6; n++) {
                int what = n;
                changesNothing("now", scene, x -> x.now(what));
                changesNothing("count", scene, x -> x.count(what));
                changesNothing("off", scene, x -> x.off(what));
            }
            changesNothing("cheap", scene, TideDice::cheap);
            changesNothing("ever", scene, TideDice::ever);
            changesNothing("wrong", scene, TideDice::wrong);
            changesNothing("bet", scene, TideDice::bet);
            changesNothing("ring", scene, TideDice::ring);
            changesNothing("third", scene, x -> x.third(x.die(0, 0), x.die(1, 0), 3));
            changesNothing("trace", scene, TideDice::trace);
        }
    }

    private static void marksChangeTheTraceAlone() {
        check.sentence("come to THE TRACE");
        int[] tolls = {1, 11, 101, 1011, 10101, 100001};
        for (Scene scene : scenes()) {
            for (int n = 0; n < 6; n++) {
                int kind = n;
                List<Long> due = new ArrayList<>();
                List<Long> got = new ArrayList<>();
                TideDice twin = scene.made();
                TideDice asked = scene.made();
                asked.mark(kind, 3);
                check.due("trace behind mark(" + kind + ", 3)", asked.trace() - twin.trace(), tolls[kind]);
                shortly(twin, due);
                allUndone(twin, due);
                shortly(asked, got);
                allUndone(asked, got);
                check.isTrue("mark(" + kind + ", 3) changes the trace alone", got.equals(due));
            }
        }
    }
}
