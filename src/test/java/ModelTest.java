import java.lang.reflect.Method;
import java.util.ArrayList;
import java.util.Comparator;
import java.util.List;
import java.util.Random;

/** Runs of calls by chance (always the same ones), each answer held against PlainHarbour's. */
final class ModelTest {
    private static final int RUNS = 600, CALLS = 512, CALLS_OF_A_TEXT = 124;
    private static final int[] EXTREMES = {Integer.MIN_VALUE, Integer.MAX_VALUE, -1, 31, 32, 33, 1 << 16};
    private static final String[] PIECES = {"d", "b", "g", ";", " ", "1", "2", "3", "9", "0", "12", "18", "19", "x", "D"};
    private static final Check check = new Check();
    private static final List<Method[]> calls = new ArrayList<>();

    private final Random random;
    private final TideDice real = new TideDice();
    private final PlainHarbour plain = new PlainHarbour();
    private final StringBuilder said = new StringBuilder();
    private int made;

    private ModelTest(long seed) {
        random = new Random(seed);
    }

    public static void main(String[] args) throws Exception {
        for (Method method : TideDice.class.getDeclaredMethods()) {
            if (java.lang.reflect.Modifier.isPublic(method.getModifiers())) {
                Method model = PlainHarbour.class.getMethod(method.getName(), method.getParameterTypes());
                model.setAccessible(true);
                calls.add(new Method[] {method, model});
            }
        }
        // The machine tells methods in any order; the runs are to be the same ones.
        calls.sort(Comparator.comparing(pair -> pair[0].getName()));
        for (int run = 0; run < RUNS; run++) {
            new ModelTest(run).go();
        }
        check.end();
    }

    private void go() throws Exception {
        tellHarbour();
        while (made <= CALLS - CALLS_OF_A_TEXT) {
            int what = random.nextInt(100);
            if (what < 25) {
                call("throwsDice", pipOf(0), pipOf(1), pipOf(2));
            } else if (what < 50) {
                takeOrPass();
            } else if (what < 55) {
                call("undo");
            } else if (what < 56 && random.nextInt(4) == 0) {
                tellHarbour();
            } else {
                callAny();
            }
        }
    }

    private int pipOf(int d) {
        return real.die(d, random.nextInt(real.die(d, -1)));
    }

    private void takeOrPass() throws Exception {
        int open = real.now(3);
        if (open == 0) {
            call("passes");
            return;
        }
        int b = 1 + random.nextInt(real.count(0));
        for (int i = 0; i < 18 && (open >> b & 1) == 0; i++) {
            b = b % real.count(0) + 1;
        }
        call("takes", b);
    }

    private void tellHarbour() throws Exception {
        call("clear");
        String text = random.nextInt(3) == 0 ? anyPieces() : properText();
        for (int i = 0; i < text.length() && i < 121; i++) {
            call("type", (int) text.charAt(i));
        }
        call("harbour");
        call("clear");
    }

    private String anyPieces() {
        StringBuilder text = new StringBuilder();
        int many = random.nextInt(12);
        for (int i = 0; i < many; i++) {
            text.append(PIECES[random.nextInt(PIECES.length)]);
        }
        return text.toString();
    }

    private String properText() {
        StringBuilder text = new StringBuilder();
        int dice = random.nextInt(4);
        int highest = 1 + random.nextInt(9);
        for (int d = 0; d < dice; d++) {
            text.append("d");
            int pips = 1 + random.nextInt(6);
            for (int i = 0; i < pips; i++) {
                text.append(' ').append(1 + random.nextInt(highest));
            }
            text.append(';');
        }
        if (random.nextBoolean()) {
            text.append("b ").append(3 + random.nextInt(16)).append(" ;");
        }
        if (random.nextBoolean()) {
            text.append(" g").append(1 + random.nextInt(9)).append(";");
        }
        return text.toString();
    }

    private void callAny() throws Exception {
        Method[] pair = calls.get(random.nextInt(calls.size()));
        // A text that is read is told on purpose; this would end most games early.
        if (pair[0].getName().equals("harbour")) {
            return;
        }
        Integer[] arguments = new Integer[pair[0].getParameterCount()];
        int highest = random.nextInt(3) == 0 ? 20 : 5;
        for (int i = 0; i < arguments.length; i++) {
            boolean extreme = random.nextInt(40) == 0;
            arguments[i] = extreme ? EXTREMES[random.nextInt(EXTREMES.length)] : random.nextInt(highest + 2) - 1;
        }
        call(pair, arguments);
    }

    private void call(String name, Integer... arguments) throws Exception {
        for (Method[] pair : calls) {
            if (pair[0].getName().equals(name)) {
                call(pair, arguments);
            }
        }
    }

    private void call(Method[] pair, Integer[] arguments) throws Exception {
        made++;
        long got = ((Number) pair[0].invoke(real, (Object[]) arguments)).longValue();
        long want = ((Number) pair[1].invoke(plain, (Object[]) arguments)).longValue();
        said.append(pair[0].getName()).append(List.of(arguments)).append(" = ").append(want).append('\n');
        check.due(pair[0].getName() + List.of(arguments), got, want);
        if (got != want) {
            System.out.println(said);
            check.end();
        }
    }
}
