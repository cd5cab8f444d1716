import java.io.IOException;
import java.lang.reflect.Method;
import java.nio.file.Files;
import java.nio.file.Path;
import java.util.regex.Matcher;
import java.util.regex.Pattern;

/** The calls in README.md answer what stands behind them. */
public final class ReadmeTest {
    private ReadmeTest() {
    }

    public static void main(String[] args) throws IOException, ReflectiveOperationException {
        String readme = Files.readString(Path.of("README.md"));
        Matcher text = Pattern.compile("(?s)```text\n(.*?)```").matcher(readme);
        Check.due("a text in README.md", text.find() ? 1 : 0, 1);
        MoonPromises x = new MoonPromises();
        Check.due("its lines", Check.tell(x, text.group(1)), text.group(1).split("\n").length);
        Matcher call = Pattern.compile("(?m)^x\\.(\\w+)\\((.*?)\\); *// (-?\\d+)(?=:|$)").matcher(readme);
        int calls = 0;
        while (call.find()) {
            Check.due("README's " + call.group(), answer(x, call.group(1), call.group(2)), Long.parseLong(call.group(3)));
            calls++;
        }
        Check.due("all calls of README are run", calls, readme.split("(?m)^x\\.", -1).length - 1);
        Check.finish("ReadmeTest");
    }

    private static long answer(MoonPromises x, String name, String arguments) throws ReflectiveOperationException {
        String[] numbers = arguments.isEmpty() ? new String[0] : arguments.split(", ");
        for (Method method : MoonPromises.class.getMethods()) {
            if (method.getName().equals(name) && method.getParameterCount() == numbers.length) {
                Object[] values = new Object[numbers.length];
                for (int i = 0; i < numbers.length; i++) {
                    boolean wide = method.getParameterTypes()[i] == long.class;
                    values[i] = wide ? (Object) Long.parseLong(numbers[i]) : (Object) Integer.parseInt(numbers[i]);
                }
                return ((Number) method.invoke(x, values)).longValue();
            }
        }
        throw new IllegalArgumentException("README calls " + name);
    }
}
