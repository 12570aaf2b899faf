import java.lang.reflect.InvocationTargetException;
import java.lang.reflect.Method;
import java.lang.reflect.Modifier;
import java.util.ArrayList;
import java.util.Comparator;
import java.util.List;
import java.util.Random;

/** No call throws or fails to end, for any numbers in any state, be it far behind the 512th call. */
final class AnyCallTest {
    private static final int OBJECTS = 40, CALLS = 10000;
    private static final int[] FAR = {Integer.MIN_VALUE, Integer.MIN_VALUE + 1, -1, 31, 32, 33, 64, 1 << 16,
        1 << 30, Integer.MAX_VALUE - 1, Integer.MAX_VALUE};
    private static final String BYTES = "dbg;; 1234569";
    private static final Check check = new Check();

    public static void main(String[] args) throws Exception {
        List<Method> calls = new ArrayList<>();
        for (Method method : TideDice.class.getDeclaredMethods()) {
            if (Modifier.isPublic(method.getModifiers())) {
                calls.add(method);
            }
        }
        calls.sort(Comparator.comparing(Method::getName));
        for (int seed = 0; seed < OBJECTS; seed++) {
            callMany(new TideDice(), calls, new Random(seed));
        }
        check.end();
    }

    private static void callMany(TideDice x, List<Method> calls, Random random) throws Exception {
        int thrown = 0;
        for (int made = 0; made < CALLS; made++) {
            if (random.nextInt(4) == 0) {
                x.type(BYTES.charAt(random.nextInt(BYTES.length())));
            }
            Method call = calls.get(random.nextInt(calls.size()));
            Object[] numbers = new Object[call.getParameterCount()];
            for (int i = 0; i < numbers.length; i++) {
                numbers[i] = random.nextInt(8) == 0 ? FAR[random.nextInt(FAR.length)] : random.nextInt(10) - 1;
            }
            try {
                call.invoke(x, numbers);
            } catch (InvocationTargetException fault) {
                thrown++;
                System.out.println(call + List.of(numbers).toString() + " threw " + fault.getCause());
            }
        }
        check.due("calls that threw", thrown, 0);
    }
}
