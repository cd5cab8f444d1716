import java.math.BigInteger;
import java.util.ArrayList;
import java.util.Arrays;
import java.util.List;
import java.util.Random;
import java.util.regex.Matcher;
import java.util.regex.Pattern;

/** Holds isles() and fault() against the grammar of term I, written down again, in texts with tokens changed. */
public final class FaultsTest {
    private static final String[] OTHERS = {"isles", "sea", "person", "promise", "shut", "at", "oars", "on", "dies",
        "tends", "to", "worth", "said", "drunk", ";", ";;", "isle", "onn", "a", "z", "0", "1", "2", "3", "5", "6", "7",
        "9", "10", "11", "19", "20", "21", "99", "100", "101", "1000000", "1000001", "0007", "00000000000000000001",
        "4294967296", "4294967297", "18446744073709551617", "99999999999999999999", "-1", "A", "_", "\t", "\r", "\0",
        "\u007f", "\u0080", "\u00e9", "\u00ff", "`", "{", "/", ":", "3;", "on3", "3on", ";person on 0", "; shut 0 0;",
        ";promise 0 to 1 worth 5 said 0", "drunk on 0", "on 0 drunk", "tends 5 dies 9", "dies 0 tends 100"};

    private static final String[] WORDS = {"isles", "at", "sea", "oars", "on", "dies", "tends", "promise", "to", "worth",
        "said", "shut"};
    private static final int[] BOUNDS = {6, 7, 19, 20, 21, 98, 99, 100, 101, 999999, 1000000, 1000001};

    /** Where a text fails, and how. */
    private static final class Fault extends RuntimeException {
        private static final long serialVersionUID = 1L;
        final int kind;
        final int place;

        Fault(int kind, int place) {
            super("fault " + kind + " at " + place);
            this.kind = kind;
            this.place = place;
        }
    }

    private final List<String> tokens = new ArrayList<>();
    private final List<Integer> places = new ArrayList<>();
    private final int end;
    private int at = 0;
    private int lines = 0;
    private int isles;
    private int told;
    private final int[][] seas = new int[6][6];
    private final boolean[][] shut = new boolean[6][100];
    private final List<int[]> people = new ArrayList<>();
    private final List<int[]> promises = new ArrayList<>();

    private FaultsTest(String text) {
        Matcher m = Pattern.compile("[a-z]+|[0-9]+|[^ \n]", Pattern.DOTALL).matcher(text);
        while (m.find()) {
            tokens.add(m.group());
            places.add(m.start());
        }
        end = text.length();
    }

    private String next() {
        return at < tokens.size() ? tokens.get(at) : "";
    }

    private Fault fault(int kind) {
        return new Fault(kind, at < places.size() ? places.get(at) : end);
    }

    private void expect(String token) {
        if (!next().equals(token)) {
            throw fault(1);
        }
        at++;
    }

    /** A number from the least to the most, unlike the barred one (-1: none is). */
    private int number(int least, int most, int barred) {
        if (!next().matches("[0-9]+")) {
            throw fault(1);
        }
        BigInteger value = new BigInteger(next());
        if (value.compareTo(BigInteger.valueOf(least)) < 0 || value.compareTo(BigInteger.valueOf(most)) > 0
            || value.equals(BigInteger.valueOf(barred))) {
            throw fault(2);
        }
        at++;
        return value.intValue();
    }

    private void read() {
        while (at < tokens.size()) {
            String word = next();
            boolean known = lines == 0 ? word.equals("isles")
                : Arrays.asList("sea", "person", "promise", "shut").contains(word);
            if (!known) {
                throw fault(1);
            }
            if (word.equals("person") && people.size() == 6 || word.equals("promise") && promises.size() == 10) {
                throw fault(3);
            }
            at++;
            switch (word) {
                case "isles" -> isles();
                case "sea" -> sea();
                case "person" -> person();
                case "promise" -> promise();
                default -> shut[number(0, isles - 1, -1)][number(0, 99, -1)] = true;
            }
            expect(";");
            lines++;
        }
    }

    private void isles() {
        isles = number(1, 6, -1);
        expect("at");
        told = number(0, 99, -1);
    }

    private void sea() {
        int one = number(0, isles - 1, -1);
        int other = number(0, isles - 1, one);
        expect("oars");
        seas[one][other] = number(1, 20, -1);
        seas[other][one] = seas[one][other];
    }

    private void person() {
        expect("on");
        int[] person = {number(0, isles - 1, -1), -1, 0};
        List<String> marks = new ArrayList<>(Arrays.asList("dies", "tends"));
        while (marks.remove(next())) {
            boolean dies = next().equals("dies");
            at++;
            person[dies ? 1 : 2] = number(0, dies ? 99 : 100, -1);
        }
        people.add(person);
    }

    private void promise() {
        int[] promise = {number(0, people.size() - 1, -1), 0, 0, 0, 0, -1};
        expect("to");
        promise[1] = number(0, people.size() - 1, promise[0]);
        expect("worth");
        promise[2] = number(1, 1000000, -1);
        expect("said");
        promise[3] = number(0, told, -1);
        List<String> marks = new ArrayList<>(Arrays.asList("drunk", "on"));
        while (marks.remove(next())) {
            boolean drunk = next().equals("drunk");
            at++;
            promise[drunk ? 4 : 5] = drunk ? 1 : number(0, promises.size() - 1, -1);
        }
        promises.add(promise);
    }

    private void hold(MoonPromises x, String text) {
        Check.due("count(0) of " + text, x.count(0), isles);
        Check.due("count(1) of " + text, x.count(1), people.size());
        Check.due("count(2) of " + text, x.count(2), promises.size());
        Check.due("count(8) of " + text, x.count(8), told);
        for (int a = 0; a < isles; a++) {
            for (int b = 0; b < isles; b++) {
                Check.due("sea of " + text, x.sea(a, b), a == b ? -2 : seas[a][b]);
            }
            for (int moon = 0; moon < 100; moon++) {
                Check.due("open of " + text, x.open(a, moon), shut[a][moon] ? 0 : 1);
            }
        }
        for (int p = 0; p < people.size(); p++) {
            for (int what = 0; what < 3; what++) {
                Check.due("person of " + text, x.person(p, what), people.get(p)[what]);
            }
        }
        for (int p = 0; p < promises.size(); p++) {
            for (int what = 0; what < 6; what++) {
                Check.due("promise of " + text, x.promise(p, what), promises.get(p)[what]);
            }
        }
    }

    public static void main(String[] args) {
        int[] kinds = new int[4];
        for (int draw = 0; draw < 20000; draw++) {
            Random random = new Random(draw);
            String text = changed(random, new Model(random, 6, 99).text());
            FaultsTest model = new FaultsTest(text);
            MoonPromises x = new MoonPromises();
            int kind = 0;
            int place = -1;
            try {
                model.read();
            } catch (Fault fault) {
                kind = fault.kind;
                place = fault.place;
            }
            kinds[kind]++;
            Check.due("isles() of " + text, Check.tell(x, text), kind == 0 ? model.lines : -4);
            Check.due("fault(0) of " + text, x.fault(0), kind);
            Check.due("fault(1) of " + text, x.fault(1), place);
            Check.due("count(7) of " + text, x.count(7), 0);
            if (kind == 0) {
                model.hold(x, text);
            } else {
                Check.due("count(6) of " + text, x.count(6), 0);
            }
        }
        for (int kind = 0; kind < 4; kind++) {
            Check.due("texts enough with fault " + kind, kinds[kind] > 300 ? 1 : 0, 1);
        }
        Check.finish("FaultsTest");
    }

    /** Some tokens taken out, told twice, put in place of others, or joined; the end cut off. */
    private static String changed(Random random, String text) {
        List<String> parts = new ArrayList<>(Arrays.asList(text.replace("\n", "").split("(?<=[ ;])|(?=;)")));
        for (int i = random.nextInt(4); i > 0; i--) {
            int at = random.nextInt(parts.size());
            String other = OTHERS[random.nextInt(OTHERS.length)];
            switch (random.nextInt(9)) {
                case 0 -> parts.set(at, " ");
                case 1 -> parts.add(at, parts.get(at));
                case 2 -> parts.add(at, " " + other + " ");
                case 3 -> parts.set(at, parts.get(at).trim());
                case 4 -> parts.add(at, random.nextBoolean() ? "\n \n" : "  ");
                case 5 -> fill(random, parts);
                case 6, 7 -> renumber(random, parts);
                default -> parts.set(at, other + (random.nextInt(5) == 0 ? "" : " "));
            }
        }
        String whole = String.join("", parts);
        whole = whole.substring(0, Math.min(whole.length(), 1600));
        return random.nextInt(8) > 0 ? whole : whole.substring(0, random.nextInt(whole.length() + 1));
    }

    /** Another small number, or one at a bound, behind a word drawn. */
    private static void renumber(Random random, List<String> parts) {
        String word = WORDS[random.nextInt(WORDS.length)];
        List<Integer> found = new ArrayList<>();
        for (int i = 0; i + 1 < parts.size(); i++) {
            if (parts.get(i).trim().equals(word)) {
                found.add(i + 1);
            }
        }
        if (!found.isEmpty()) {
            int at = found.get(random.nextInt(found.size()));
            boolean small = random.nextInt(3) > 0;
            parts.set(at, (small ? random.nextInt(10) : BOUNDS[random.nextInt(BOUNDS.length)]) + " ");
        }
    }

    /** As many people or promises as there can be, or one more. */
    private static void fill(Random random, List<String> parts) {
        String word = random.nextBoolean() ? "person" : "promise";
        String line = word.equals("person") ? "person on 0;" : "promise 0 to 1 worth 7 said 0;";
        int due = (word.equals("person") ? 6 : 10) + random.nextInt(2);
        for (int found = String.join("", parts).split(word, -1).length - 1; found < due; found++) {
            parts.add(line);
        }
    }
}
