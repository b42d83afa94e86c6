import java.lang.reflect.InvocationTargetException;
import java.lang.reflect.Method;
import java.lang.reflect.Modifier;
import java.util.Arrays;
import java.util.Comparator;
import java.util.List;
import java.util.Random;

/** Every call with arguments from everywhere, in many states: no call throws, and what may change nothing changes nothing. */
public final class AnyArgumentsTest {
    private static final int STATES = 16;
    private static final int[] NUMBERS = {Integer.MIN_VALUE, -1, 0, 1, 2, 5, 9, 63, 100, 366, 401, Integer.MAX_VALUE};
    private static final long[] RATES = {Long.MIN_VALUE, -1, 0, 1, 1000000000000000L, 1000000000000001L, Long.MAX_VALUE};
    private static final List<String> CHANGES = List.of("condition", "begin", "finish", "apply", "decide", "lapse", "cure",
        "serve", "vary", "pass", "set", "play", "undo", "type", "clearText");
    private static final List<Integer> ERRORS = List.of(Check.INVALID, Check.IMPOSSIBLE, Check.LIMIT, Check.MISSING);

    public static void main(String[] args) {
        Method[] methods = TriggerConditions.class.getDeclaredMethods();
        Arrays.sort(methods, Comparator.comparing(Method::getName));
        for (Method method : methods) {
            if (Modifier.isPublic(method.getModifiers())) {
                Check.part("any arguments: " + method.getName());
                for (int state = 0; state < STATES; state++) {
                    callAll(method, state);
                }
            }
        }
        Check.end();
    }

    /** Of calls with many arguments only some mixes, as there are many thousands. */
    private static void callAll(Method method, int state) {
        int count = method.getParameterCount();
        int mixes = (int) Math.pow(NUMBERS.length, count);
        int step = new int[] {1, 1, 1, 5, 37}[count];
        for (int mix = 0; mix < mixes; mix += step) {
            call(method, mix, state);
        }
    }

    private static void call(Method method, int mix, int state) {
        Object[] a = new Object[method.getParameterCount()];
        int rest = mix;
        for (int i = 0; i < a.length; i++) {
            boolean isRate = method.getParameterTypes()[i] == long.class;
            a[i] = isRate ? (Object) RATES[rest % RATES.length] : (Object) NUMBERS[rest % NUMBERS.length];
            rest /= NUMBERS.length;
        }
        String told = "state " + state + ", " + method.getName() + Arrays.toString(a);
        TriggerConditions x = inState(state);
        long answer;
        try {
            answer = ((Number) method.invoke(x, a)).longValue();
        } catch (InvocationTargetException | IllegalAccessException e) {
            Check.due(told, String.valueOf(e.getCause()), "an answer");
            return;
        }
        boolean isError = answer < 0;
        Check.due(told + " answers a number or an error, " + answer, isError && !ERRORS.contains((int) answer) ? 0 : 1, 1);
        if (isError || !CHANGES.contains(method.getName())) {
            TriggerConditions untouched = inState(state);
            Check.due("all behind " + told, seen(x), seen(untouched));
        }
    }

    private static String seen(TriggerConditions x) {
        return Check.look(x) + x.count(6) + " " + x.count(7) + " " + x.fault(0) + " " + x.undo() + " " + x.which(3);
    }

    /** The same number makes the same state again; 0 is the new object. */
    private static TriggerConditions inState(int number) {
        Random random = new Random(number);
        TriggerConditions x = new TriggerConditions();
        for (int i = 0; i < number * 8; i++) {
            switch (random.nextInt(11)) {
                case 0:
                case 1: x.condition(random.nextInt(3), random.nextInt(5), random.nextInt(20), 1 + random.nextInt(6)); break;
                case 2: x.begin(random.nextInt(5)); break;
                case 3: x.finish(random.nextInt(5)); break;
                case 4: x.apply(random.nextInt(10), random.nextInt(64)); break;
                case 5: x.decide(random.nextInt(10), random.nextInt(64)); break;
                case 6: x.lapse(random.nextInt(10)); break;
                case 7: x.serve(random.nextInt(10), 1 + random.nextInt(9)); break;
                case 8: x.pass(1 + random.nextInt(number % 3 == 0 ? 400 : 9)); break;
                case 9: x.type("cbfadp0123456789,;".charAt(random.nextInt(18))); break;
                default: x.undo(); break;
            }
        }
        if (number % 4 == 3) {
            fill(x);
        }
        return x;
    }

    /** All that can be full: where an index is at its end. */
    private static void fill(TriggerConditions x) {
        for (int i = 0; i < 10; i++) {
            x.condition(i % 3, 4, 5, 6);
        }
        Make.beginTo(x, 4);
        for (int i = x.count(7); i < 80; i++) {
            x.type('9');
        }
    }
}
