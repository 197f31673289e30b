import java.lang.reflect.InvocationTargetException;
import java.lang.reflect.Method;
import java.util.ArrayList;
import java.util.List;
import java.util.function.Supplier;

/** No call ever throws, for any numbers in any state: each call with all rows of numbers at and around the bounds. */
public final class AnyNumbersTest {
    private static final int[] MANY = {Integer.MIN_VALUE, Integer.MIN_VALUE + 1, -65536, -256, -11, -2, -1, 0, 1, 2, 3, 4, 6, 7, 8, 10,
        11, 13, 14, 17, 20, 21, 39, 40, 41, 63, 64, 127, 128, 255, 256, 65536, Integer.MAX_VALUE - 1, Integer.MAX_VALUE};
    private static final int[] SOME = {Integer.MIN_VALUE, -1, 0, 1, 3, 5, 8, 20, 40, 63, Integer.MAX_VALUE};
    private static final int CALLS_OF_ONE = 200;

    private static int asked = 0;
    private static int wrong = 0;

    public static void main(String[] args) throws IllegalAccessException {
        List<Supplier<EveningFirst>> states = List.of(EveningFirst::new, Checks::rich, AnyNumbersTest::full);
        for (Supplier<EveningFirst> made : states) {
            for (Method m : EveningFirst.class.getDeclaredMethods()) {
                if (java.lang.reflect.Modifier.isPublic(m.getModifiers())) {
                    allRows(m, made);
                }
            }
        }
        System.out.println("AnyNumbersTest: " + asked + " calls, " + wrong + " wrong");
        if (wrong != 0) {
            System.exit(1);
        }
    }

    /** As many as there may be of all. */
    private static EveningFirst full() {
        EveningFirst x = Checks.told("hours 8;one forth;one back 1;one other;one back;" + Checks.times(4, "deed 7 3 0 5;"));
        for (int i = 0; i < 8; i++) {
            x.does(i, i % 4, (i + 1) % 4, i % 6, 1 << i % 6);
            x.see(i % 4, i % 6, i, i % 2 == 0);
            x.odd(i, i + 2);
        }
        x.keep(0);
        x.keep(1);
        for (int k = 0; k < 4; k++) {
            x.sheet(k, k % 3, 40);
        }
        Checks.feed(x, Checks.times(8, "hours 8;one back 0;"));
        return x;
    }

    private static void allRows(Method m, Supplier<EveningFirst> made) throws IllegalAccessException {
        Class<?>[] types = m.getParameterTypes();
        int[] numbers = types.length <= 2 ? MANY : SOME;
        int rows = 1;
        for (int i = 0; i < types.length; i++) {
            rows *= numbers.length;
        }
        EveningFirst x = null;
        for (int row = 0; row < rows; row++) {
            x = row % CALLS_OF_ONE == 0 ? made.get() : x;
            List<Object> a = new ArrayList<>();
            int rest = row;
            for (Class<?> type : types) {
                int v = numbers[rest % numbers.length];
                rest /= numbers.length;
                a.add(type == boolean.class ? (Object) (v > 0) : (Object) v);
            }
            ask(x, m, a);
        }
    }

    private static void ask(EveningFirst x, Method m, List<Object> a) throws IllegalAccessException {
        asked++;
        try {
            long answer = ((Number) m.invoke(x, a.toArray())).longValue();
            if (answer < -170) {
                wrong++;
                System.out.println(m.getName() + a + " answered " + answer + ", which is no answer of the document");
            }
        } catch (InvocationTargetException e) {
            wrong++;
            System.out.println(m.getName() + a + " threw " + e.getCause());
        }
    }
}
