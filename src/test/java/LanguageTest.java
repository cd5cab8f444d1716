import java.io.IOException;
import java.lang.reflect.Field;
import java.lang.reflect.Method;
import java.lang.reflect.Modifier;
import java.nio.file.Files;
import java.nio.file.Path;
import java.util.Set;
import java.util.TreeSet;
import java.util.regex.Matcher;
import java.util.regex.Pattern;

/** What of the document's face and of LANGUAGE.md can be seen from outside. */
public final class LanguageTest {
    private LanguageTest() {
    }

    public static void main(String[] args) throws IOException {
        face();
        insides();
        words(bare(Files.readString(Path.of("src/main/java/MoonPromises.java"))));
        Check.finish("LanguageTest");
    }

    private static void face() throws IOException {
        String doc = Files.readString(Path.of("../shared/DOC.md"));
        Set<String> due = new TreeSet<>();
        Matcher m = Pattern.compile("(?m)^    public (int|long) (\\w+)\\((.*)\\);$").matcher(doc);
        while (m.find()) {
            due.add(m.group(1) + " " + m.group(2) + " " + m.group(3).replaceAll(" \\w+(,|$)", "$1").trim());
        }
        Set<String> found = new TreeSet<>();
        Set<String> names = new TreeSet<>();
        for (Method method : MoonPromises.class.getDeclaredMethods()) {
            if (Modifier.isPublic(method.getModifiers())) {
                StringBuilder types = new StringBuilder();
                for (Class<?> type : method.getParameterTypes()) {
                    types.append(types.length() == 0 ? "" : ", ").append(type.getName());
                }
                found.add(method.getReturnType().getName() + " " + method.getName() + " " + types);
                names.add(method.getName());
            }
        }
        Check.due("methods of the face", due.size(), 60);
        for (String one : due) {
            Check.due("the face has " + one, found.contains(one) ? 1 : 0, 1);
        }
        Check.due("no other public method", found.size(), due.size());
        for (Method method : MoonPromises.class.getDeclaredMethods()) {
            boolean open = Modifier.isPublic(method.getModifiers());
            Check.due(method + " is public or private", open || Modifier.isPrivate(method.getModifiers()) ? 1 : 0, 1);
            Check.due(method + " has a name of its own", !open && names.contains(method.getName()) ? 1 : 0, 0);
        }
        for (Class<?> inner : MoonPromises.class.getDeclaredClasses()) {
            for (Method method : inner.getDeclaredMethods()) {
                Check.due(method + " has a name of its own", names.contains(method.getName()) ? 1 : 0, 0);
            }
        }
        Check.due("one constructor", MoonPromises.class.getConstructors().length, 1);
        Check.due("final", Modifier.isFinal(MoonPromises.class.getModifiers()) ? 1 : 0, 1);
    }

    private static void insides() {
        Class<?>[] inner = MoonPromises.class.getDeclaredClasses();
        Check.due("twelve classes at most", inner.length < 12 ? 1 : 0, 1);
        fields(MoonPromises.class);
        for (Field field : MoonPromises.class.getDeclaredFields()) {
            boolean none = field.getName().equals("NONE");
            Check.due(field + " is private", Modifier.isPrivate(field.getModifiers()) != none ? 1 : 0, 1);
        }
        for (Class<?> one : inner) {
            Check.due(one + " is static", Modifier.isStatic(one.getModifiers()) ? 1 : 0, 1);
            Check.due(one + " is not public", Modifier.isPublic(one.getModifiers()) ? 1 : 0, 0);
            fields(one);
        }
    }

    private static void fields(Class<?> one) {
        int own = 0;
        for (Field field : one.getDeclaredFields()) {
            boolean constant = Modifier.isStatic(field.getModifiers());
            own += constant ? 0 : 1;
            Check.due(field + " is final", !constant || Modifier.isFinal(field.getModifiers()) ? 1 : 0, 1);
        }
        Check.due("fields of " + one, own <= 20 ? 1 : 0, 1);
        for (Method method : one.getDeclaredMethods()) {
            Check.due("parameters of " + method, method.getParameterCount() <= 7 ? 1 : 0, 1);
        }
    }

    /** Without comments, texts and single signs. */
    private static String bare(String source) {
        return source.replaceAll("(?s)/\\*.*?\\*/", " ").replaceAll("//.*", " ")
            .replaceAll("\"(\\\\.|[^\"\\\\])*\"", "TEXT").replaceAll("'(\\\\.|[^'\\\\])*'", "SIGN");
    }

    private static void words(String source) {
        String[] barred = {"throw", "throws", "try", "catch", "synchronized", "assert", "yield", "var", "record",
            "enum", "interface", "equals", "hashCode", "toString", "System\\.(?!arraycopy)", "Exact", "double", "float",
            "protected", "native", "volatile", "Thread", "Random", "List", "Object", "this", "super", "->", "::", "@"};
        for (String word : barred) {
            String bounds = word.matches("\\w+") && !word.equals("Exact") ? "\\b" + word + "\\b" : word;
            Check.due("no " + word, Pattern.compile(bounds).matcher(source).find() ? 1 : 0, 0);
        }
        Check.due("no joining of texts by +", Pattern.compile("TEXT *\\+|\\+ *TEXT").matcher(source).find() ? 1 : 0, 0);
        Matcher imports = Pattern.compile("import (.*);").matcher(source);
        while (imports.find()) {
            Check.due("import " + imports.group(1), imports.group(1).equals("java.util.Arrays") ? 1 : 0, 1);
        }
        // Nothing is made but in fields, and an image the first time.
        Matcher made = Pattern.compile("(?m)^.*\\bnew\\b.*$").matcher(source);
        int elsewhere = 0;
        while (made.find()) {
            elsewhere += made.group().matches(".*\\bfinal\\b.*") ? 0 : 1;
        }
        Check.due("things made outside fields", elsewhere, 1);
        int lines = 0;
        int longest = 0;
        for (String line : source.split("\n")) {
            lines = line.matches(" {4,8}[\\w\\[\\] ]+\\(.*\\{") ? 0 : lines + 1;
            longest = line.matches(" {4}(    )?\\}") ? Math.max(longest, lines) : longest;
        }
        Check.due("lines of the longest method", longest < 60 ? 1 : 0, 1);
    }
}
