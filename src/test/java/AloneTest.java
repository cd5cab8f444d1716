import java.lang.reflect.InvocationTargetException;
import java.lang.reflect.Method;
import java.util.ArrayList;
import java.util.Comparator;
import java.util.List;
import java.util.Random;

/** Each call stands alone: one object, asked this and that in any order, answers as a fresh one that is asked nothing else. */
public final class AloneTest {
    private static final List<String> CHANGING = List.of("feed", "end", "isles", "rows", "says", "passes", "undo", "anew",
        "promises", "shuts", "tends", "image", "back", "row", "write", "paste");

    private AloneTest() {
    }

    public static void main(String[] args) throws IllegalAccessException, InvocationTargetException {
        List<Method> asking = new ArrayList<>();
        for (Method method : MoonPromises.class.getMethods()) {
            if (method.getDeclaringClass() == MoonPromises.class && !CHANGING.contains(method.getName())) {
                asking.add(method);
            }
        }
        asking.sort(Comparator.comparing(Method::getName));
        for (int world = 0; world < 250; world++) {
            Random random = new Random(world);
            Model m = new Model(random, 6, 80);
            int steps = random.nextInt(20);
            MoonPromises x = fresh(m.text(), world, steps);
            for (int call = 0; call < 120; call++) {
                Method method = asking.get(random.nextInt(asking.size()));
                Object[] values = draw(random, m, method);
                long due = ((Number) method.invoke(fresh(m.text(), world, steps), values)).longValue();
                long got = ((Number) method.invoke(x, values)).longValue();
                Check.due("world " + world + ": " + method.getName() + java.util.Arrays.toString(values), got, due);
            }
        }
        Check.finish("AloneTest");
    }

    private static MoonPromises fresh(String text, int world, int steps) {
        MoonPromises x = Check.told(text);
        Random random = new Random(world);
        for (int i = 0; i < steps; i++) {
            int kind = random.nextInt(4);
            if (kind == 0) {
                x.passes();
            } else if (kind < 3) {
                x.rows(random.nextInt(3), random.nextInt(6));
            } else {
                x.says(random.nextInt(10));
            }
        }
        for (int slot = 0; slot < 3; slot++) {
            int said = Math.max(0, x.promise(slot, 3));
            Check.slot(x, slot, 2, said + 1 + random.nextInt(9), 1 + random.nextInt(9));
        }
        return x;
    }

    /** Mostly what there is: the first argument is a person, a promise or a slot, others a number of moons, or a moon. */
    private static Object[] draw(Random random, Model m, Method method) {
        Object[] values = new Object[method.getParameterCount()];
        for (int i = 0; i < values.length; i++) {
            int wide = random.nextInt(3) == 0 ? m.now + random.nextInt(8) : 1 + random.nextInt(12);
            values[i] = i == 0 || random.nextInt(3) == 0 ? random.nextInt(3) : wide;
        }
        return values;
    }
}
