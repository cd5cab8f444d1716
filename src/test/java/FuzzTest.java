import java.lang.reflect.InvocationTargetException;
import java.lang.reflect.Method;
import java.util.ArrayList;
import java.util.Comparator;
import java.util.List;
import java.util.Random;

/** Calls drawn in any state with any arguments: none may throw, and two objects answer alike. */
public final class FuzzTest {
    private static final int[] EDGES = {Integer.MIN_VALUE, Integer.MAX_VALUE, -2, -1, 0, 1, 5, 6, 9, 10, 12, 13, 40,
        41, 59, 60, 61, 99, 100, 101, 1000000, 1000001, 2000000000, 2000000001};
    private static final String SIGNS = "isle sea oars person on dies tends promise to worth said drunk shut ;019 \n?";

    private FuzzTest() {
    }

    public static void main(String[] args) throws IllegalAccessException {
        List<Method> methods = new ArrayList<>();
        for (Method method : MoonPromises.class.getMethods()) {
            if (method.getDeclaringClass() == MoonPromises.class) {
                methods.add(method);
            }
        }
        methods.sort(Comparator.comparing(Method::getName));
        for (int run = 0; run < 400; run++) {
            drawRun(methods, new Random(run), run);
        }
        for (int text = 0; text < 20000; text++) {
            drawText(new Random(text));
        }
        Check.finish("FuzzTest");
    }

    private static void drawRun(List<Method> methods, Random random, int run) throws IllegalAccessException {
        MoonPromises x = new MoonPromises();
        MoonPromises y = new MoonPromises();
        for (int call = 0; call < 512; call++) {
            if (random.nextInt(call == 0 ? 2 : 100) == 0) {
                String text = new Model(random, 6, 99).text();
                Check.due("isles() in run " + run, Check.tell(x, text), Check.tell(y, text));
                for (int slot = 0; slot < 4; slot++) {
                    long[] numbers = new long[2 * random.nextInt(5)];
                    for (int i = 0; i < numbers.length; i += 2) {
                        numbers[i] = Math.max(0, x.promise(slot, 3)) + random.nextInt(11);
                        numbers[i + 1] = 1 + random.nextInt(40);
                    }
                    Check.slot(x, slot, slot, numbers);
                    Check.slot(y, slot, slot, numbers);
                }
            }
            Method method = methods.get(random.nextInt(methods.size()));
            Object[] values = new Object[method.getParameterCount()];
            for (int i = 0; i < values.length; i++) {
                int value = random.nextInt(4) == 0 ? EDGES[random.nextInt(EDGES.length)] : random.nextInt(8);
                values[i] = method.getParameterTypes()[i] == long.class ? (Object) (long) value : (Object) value;
            }
            Check.due(method.getName() + " in run " + run, answer(method, x, values), answer(method, y, values));
        }
    }

    private static long answer(Method method, MoonPromises x, Object[] values) throws IllegalAccessException {
        try {
            return ((Number) method.invoke(x, values)).longValue();
        } catch (InvocationTargetException thrown) {
            Check.due(method.getName() + " threw " + thrown.getCause(), 1, 0);
            return 0;
        }
    }

    /** A sound text with some bytes changed: a fault has its kind and a place within the text. */
    private static void drawText(Random random) {
        StringBuilder text = new StringBuilder(new Model(random, 6, 99).text());
        for (int i = random.nextInt(4); i > 0; i--) {
            int at = random.nextInt(text.length());
            text.setCharAt(at, SIGNS.charAt(random.nextInt(SIGNS.length())));
        }
        if (random.nextInt(4) == 0) {
            text.setLength(random.nextInt(text.length()));
        }
        if (text.length() > 1600) {
            text.setLength(1600);
        }
        MoonPromises x = new MoonPromises();
        int answer = Check.tell(x, text.toString());
        boolean faulty = x.fault(0) >= 1 && x.fault(0) <= 3 && x.fault(1) >= 0 && x.fault(1) <= text.length();
        boolean sound = x.fault(0) == 0 && x.fault(1) == -1;
        Check.due("isles() of " + text, (answer == -4 ? faulty : sound && answer == x.count(6)) ? 1 : 0, 1);
    }
}
