import java.lang.reflect.InvocationTargetException;
import java.lang.reflect.Method;
import java.util.ArrayList;
import java.util.Comparator;
import java.util.List;
import java.util.Random;
import java.util.Set;

/** What only asks, and what is refused, leaves all as it was: in drawn worlds, with drawn arguments. */
public final class StaysTest {
    private static final Set<String> CHANGING = Set.of("feed", "end", "isles", "rows", "says", "passes", "undo", "anew",
        "promises", "shuts", "tends", "image", "back", "row", "write", "paste");
    private static final int[] DRAWN = {-1, 0, 0, 1, 1, 2, 3, 4, 5, 7, 9, 10, 12, 40, 50, 60, 61, 99, 100, 1000000, 2000000000};

    private StaysTest() {
    }

    public static void main(String[] args) throws IllegalAccessException, InvocationTargetException {
        List<Method> methods = new ArrayList<>();
        for (Method method : MoonPromises.class.getMethods()) {
            if (method.getDeclaringClass() == MoonPromises.class) {
                methods.add(method);
            }
        }
        methods.sort(Comparator.comparing(Method::getName));
        for (int world = 0; world < 60; world++) {
            Random random = new Random(world);
            MoonPromises x = world == 0 ? new MoonPromises() : Check.told(new Model(random, 6, 99).text());
            for (int slot = 0; slot < 3; slot++) {
                int said = Math.max(0, x.promise(slot, 3));
                Check.slot(x, slot, 1, said + 1, 1 + random.nextInt(9), said + 2, 1);
            }
            if (world % 2 == 0) {
                x.image(1);
            }
            for (int call = 0; call < 400; call++) {
                ask(methods.get(random.nextInt(methods.size())), random, x);
            }
        }
        for (Method method : methods) {
            for (int world = 0; world < 6; world++) {
                Random random = new Random(world);
                MoonPromises x = Check.told(new Model(random, 6, 99).text());
                for (int call = 0; call < 20; call++) {
                    ask(method, random, x);
                }
            }
        }
        Check.finish("StaysTest");
    }

    private static void ask(Method method, Random random, MoonPromises x)
        throws IllegalAccessException, InvocationTargetException {
        Object[] values = new Object[method.getParameterCount()];
        StringBuilder call = new StringBuilder(method.getName());
        for (int i = 0; i < values.length; i++) {
            int drawn = DRAWN[random.nextInt(DRAWN.length)];
            values[i] = method.getParameterTypes()[i] == long.class ? (Object) (long) drawn : (Object) drawn;
            call.append(' ').append(drawn);
        }
        String before = Check.state(x);
        long answer = ((Number) method.invoke(x, values)).longValue();
        boolean refused = answer < 0 && !method.getName().equals("isles");
        if (!CHANGING.contains(method.getName()) || refused) {
            Check.due(call + " leaves all", Check.state(x).equals(before) ? 1 : 0, 1);
            Check.due(call + " again", ((Number) method.invoke(x, values)).longValue(), answer);
        }
    }
}
