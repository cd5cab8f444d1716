/** Bounds of promises 53 to 61: each just below, at and just above. */
public final class ChangesBoundsTest {
    private static final String ON = "person on 0;";
    private static final String TEXT = "isles 3 at 5;sea 0 1 oars 2;" + ON + "person on 1 tends 9;shut 1 7;"
        + "promise 0 to 1 worth 100 said 4 drunk;";

    private ChangesBoundsTest() {
    }

    public static void main(String[] args) {
        whoAndHowMuch();
        behindActs();
        tenAtMost();
        whatComes();
        isleMoonAndWhether();
        shutBehindActs();
        shutFromNowOn();
        tendsFromNowOn();
        allCounts();
        threeImages();
        asItIsKept();
        imagesAndTheRest();
        rowsAndWidths();
        sixtyNumbers();
        inPlaceOfAnother();
        writing();
        cutToItsWidth();
        pastingOrder();
        pastingPlaces();
        asTheyWere();
        Check.finish("ChangesBoundsTest");
    }

    private static void whoAndHowMuch() {
        MoonPromises x = Check.told(TEXT);
        for (int w : new int[] {Integer.MIN_VALUE, -1, 0, 1000001, Integer.MAX_VALUE}) {
            Check.refused("promises(0, 1, w)", x, n -> x.promises(0, 1, n), w, -2);
        }
        for (int p : new int[] {-1, 1, 2, 6}) {
            Check.refused("promises(p, 1, 9)", x, n -> x.promises(n, 1, 9), p, -2);
        }
        for (int p : new int[] {-1, 0, 2, 6}) {
            Check.refused("promises(0, p, 9)", x, n -> x.promises(0, n, 9), p, -2);
        }
        Check.due("promises(0, 1, 1)", x.promises(0, 1, 1), 1);
        Check.due("promises(0, 1, 2)", x.promises(0, 1, 2), 2);
        Check.due("promises(1, 0, 999999)", x.promises(1, 0, 999999), 3);
        Check.due("promises(1, 0, 1000000)", x.promises(1, 0, 1000000), 4);
        int[] worths = {100, 1, 2, 999999, 1000000};
        for (int p = 0; p < 5; p++) {
            Check.due("promise(" + p + ", 2)", x.promise(p, 2), worths[p]);
        }
        Check.due("promises(0, 1, 9) without isles", new MoonPromises().promises(0, 1, 9), -2);
        Check.due("promises(0, 1, 9) of one", Check.told("isles 1 at 5;" + ON).promises(0, 1, 9), -2);
    }

    private static void behindActs() {
        MoonPromises x = Check.told(TEXT);
        x.passes();
        Check.refused("promises(0, 1, w)", x, n -> x.promises(0, 1, n), 9, -5);
        Check.refused("promises(0, 1, w): none such comes first", x, n -> x.promises(0, 1, n), 0, -2);
        Check.refused("promises(p, p, 9): one twice comes first", x, n -> x.promises(n, n, 9), 0, -2);
        Check.due("undo()", x.undo(), 0);
        Check.due("promises(0, 1, 9): taken back", x.promises(0, 1, 9), 1);
        x.passes();
        x.anew();
        Check.due("promises(0, 1, 9): all taken back", x.promises(0, 1, 9), 2);
        // Rowing and saying are acts, too.
        x.rows(0, 1);
        Check.due("promises(0, 1, 9) behind rows", x.promises(0, 1, 9), -5);
        x.undo();
        MoonPromises y = Check.told("isles 1 at 5;" + ON + ON + "promise 0 to 1 worth 9 said 5;");
        y.says(0);
        Check.due("promises(0, 1, 9) behind says", y.promises(0, 1, 9), -5);
    }

    private static void tenAtMost() {
        for (int told = 8; told <= 10; told++) {
            MoonPromises x = Check.told("isles 1 at 5;" + ON + ON + "promise 0 to 1 worth 9 said 5;".repeat(told));
            for (int p = told; p < 10; p++) {
                Check.due("promises(0, 1, 9)", x.promises(0, 1, 9), p);
            }
            Check.due("count(2)", x.count(2), 10);
            Check.refused("promises(0, 1, w): there are ten", x, n -> x.promises(0, 1, n), 9, -3);
            Check.refused("promises(0, 1, w): none such comes first", x, n -> x.promises(0, 1, n), 0, -2);
            x.passes();
            Check.refused("promises(0, 1, w): acts come first", x, n -> x.promises(0, 1, n), 9, -5);
            Check.refused("promises(0, 1, w): none such comes first", x, n -> x.promises(0, 1, n), 1000001, -2);
        }
    }

    private static void whatComes() {
        MoonPromises x = Check.told(TEXT);
        x.promises(1, 0, 77);
        int[] due = {1, 0, 77, 5, 0, -1};
        Check.edges("promise(1, what)", w -> x.promise(1, w), -1, -2, 0, due[0], 1, due[1], 2, due[2], 3, due[3], 4, due[4], 5,
            due[5], 6, -2);
        Check.edges("halvings(1, m)", m -> x.halvings(1, m), 4, -1, 5, 0, 6, 1);
        Check.due("count(6): lines as they were", x.count(6), 6);
        Check.due("count(5): no act", x.count(5), 0);
        Check.due("undo()", x.undo(), -5);
        Check.due("count(2): it stays", x.count(2), 2);
        // As any other one: said again, kept, joined.
        MoonPromises y = Check.told("isles 1 at 5;" + ON + ON);
        Check.due("promises(0, 1, 8)", y.promises(0, 1, 8), 0);
        Check.due("promises(0, 1, 9)", y.promises(0, 1, 9), 1);
        y.passes();
        Check.due("joins(0, 1)", y.joins(0, 1), 17 - 4 - 5);
        Check.due("can()", y.can(), 3);
        Check.due("says(1)", y.says(1), 9);
        Check.due("keeps(0, 1)", y.keeps(0, 1), 0);
    }

    private static void isleMoonAndWhether() {
        MoonPromises x = Check.told(TEXT);
        for (int isle : new int[] {Integer.MIN_VALUE, -1, 3, 6}) {
            Check.refused("shuts(i, 7, 1)", x, n -> x.shuts(n, 7, 1), isle, -2);
        }
        for (int moon : new int[] {Integer.MIN_VALUE, -1, 100, Integer.MAX_VALUE}) {
            Check.refused("shuts(1, m, 1)", x, n -> x.shuts(1, n, 1), moon, -2);
        }
        for (int is : new int[] {Integer.MIN_VALUE, -1, 2, Integer.MAX_VALUE}) {
            Check.refused("shuts(1, 7, is)", x, n -> x.shuts(1, 7, n), is, -2);
        }
        for (int isle = 0; isle < 3; isle++) {
            for (int moon : new int[] {0, 1, 49, 50, 51, 98, 99}) {
                Check.due("shuts(" + isle + ", " + moon + ", 1)", x.shuts(isle, moon, 1), 0);
                Check.due("open then", x.open(isle, moon), 0);
                Check.due("shuts again", x.shuts(isle, moon, 1), 1);
                Check.due("count(4)", x.count(4), 2);
                Check.due("shuts not", x.shuts(isle, moon, 0), 1);
                Check.due("open then", x.open(isle, moon), 1);
                Check.due("shuts not again", x.shuts(isle, moon, 0), 0);
                Check.due("count(4)", x.count(4), 1);
            }
        }
        Check.due("shuts(0, 7, 1) without isles", new MoonPromises().shuts(0, 7, 1), -2);
    }

    private static void shutBehindActs() {
        MoonPromises x = Check.told(TEXT);
        x.passes();
        Check.refused("shuts(0, 7, is)", x, n -> x.shuts(0, 7, n), 1, -5);
        Check.refused("shuts(1, 7, is)", x, n -> x.shuts(1, 7, n), 0, -5);
        Check.refused("shuts(1, m, 0): none such comes first", x, n -> x.shuts(1, n, 0), 100, -2);
        Check.refused("shuts(i, 7, 0): none such comes first", x, n -> x.shuts(n, 7, 0), 3, -2);
        Check.refused("shuts(0, 7, is): none such comes first", x, n -> x.shuts(0, 7, n), 2, -2);
        x.undo();
        Check.due("shuts(1, 7, 0): taken back", x.shuts(1, 7, 0), 1);
    }

    private static void shutFromNowOn() {
        MoonPromises x = Check.told(TEXT);
        Check.due("sails(0)", x.sails(0), 2);
        x.shuts(1, 5, 1);
        Check.due("sails(0): shut", x.sails(0), 0);
        x.passes();
        x.anew();
        Check.due("sails(0): shut still", x.sails(0), 0);
        Check.due("plans(0, 1)", x.plans(0, 1), 2);
        x.shuts(0, 6, 1);
        Check.due("plans(0, 1): shut", x.plans(0, 1), 1);
    }

    private static void tendsFromNowOn() {
        MoonPromises x = Check.told(TEXT);
        for (int n : new int[] {Integer.MIN_VALUE, -1, 101, Integer.MAX_VALUE}) {
            Check.refused("tends(1, n)", x, t -> x.tends(1, t), n, -2);
        }
        for (int p : new int[] {-1, 2, 6}) {
            Check.refused("tends(p, 5)", x, t -> x.tends(t, 5), p, -2);
        }
        int was = 9;
        for (int n : new int[] {0, 1, 99, 100, 0}) {
            Check.due("tends(1, " + n + ")", x.tends(1, n), was);
            Check.due("person(1, 2)", x.person(1, 2), n);
            Check.due("person(0, 2): another one", x.person(0, 2), 0);
            was = n;
        }
        // Acts are no matter to it.
        x.passes();
        Check.due("tends(0, 50) behind an act", x.tends(0, 50), 0);
        x.anew();
        Check.due("person(0, 2)", x.person(0, 2), 50);
        Check.due("tends(0, 5) without isles", new MoonPromises().tends(0, 5), -2);
    }

    private static void allCounts() {
        MoonPromises x = Check.told("isles 6 at 7;sea 0 1 oars 1;sea 1 0 oars 2;sea 4 5 oars 1;shut 0 0;shut 0 0;shut 5 99;"
            + "shut 5 98;" + ON.repeat(6) + "promise 0 to 1 worth 1 said 7;".repeat(10));
        x.passes();
        x.says(0);
        x.row(0, 0, 0);
        x.row(3, 3, 60);
        x.feed(0, 0, 0, 0, 0);
        x.end(19);
        Check.edges("count(what)", w -> x.count(w), Integer.MIN_VALUE, -1, -1, -1, 0, 6, 1, 6, 2, 10, 3, 2, 4, 3, 5, 2, 6, 24,
            7, 19, 8, 7, 9, 2, 10, -1, Integer.MAX_VALUE, -1);
        for (int slot = 0; slot < 4; slot++) {
            x.row(slot, 0, 0);
        }
        Check.due("count(9) of all", x.count(9), 4);
        x.row(0, 0, -1);
        x.row(0, 0, 61);
        Check.due("count(9): the slot stays", x.count(9), 4);
        // All seas there can be.
        StringBuilder text = new StringBuilder("isles 6 at 0;");
        for (int a = 0; a < 6; a++) {
            for (int b = 0; b < 6; b++) {
                text.append(a == b ? "" : "sea " + a + " " + b + " oars 1;");
            }
        }
        Check.due("count(3) of all", Check.told(text.toString()).count(3), 15);
    }

    private static void threeImages() {
        MoonPromises x = Check.told(TEXT);
        Check.edges("back(k) of nothing", k -> x.back(k), Integer.MIN_VALUE, -2, -1, -2, 0, -6, 1, -6, 2, -6, 3, -2,
            Integer.MAX_VALUE, -2);
        Check.edges("image(k)", k -> x.image(k), Integer.MIN_VALUE, -2, -1, -2, 3, -2, Integer.MAX_VALUE, -2);
        Check.edges("back(k) of nothing still", k -> x.back(k), 0, -6, 1, -6, 2, -6);
        for (int k = 0; k < 3; k++) {
            Check.due("image(" + k + ")", x.image(k), 0);
            for (int other = 0; other < 3; other++) {
                int o = other;
                if (other > k) {
                    Check.refused("back(k) of nothing", x, n -> x.back(n), o, -6);
                } else {
                    Check.due("back(" + other + ")", x.back(other), 0);
                }
            }
        }
    }

    private static void asItIsKept() {
        MoonPromises x = Check.told(TEXT);
        String[] states = new String[3];
        x.says(0);
        x.rows(1, 0);
        x.says(0);
        x.image(0);
        states[0] = Check.state(x);
        x.anew();
        x.promises(1, 0, 7);
        x.shuts(2, 99, 1);
        x.tends(0, 33);
        x.passes();
        x.image(1);
        states[1] = Check.state(x);
        Check.tell(x, "isles 6 at 99;sea 4 5 oars 20;" + "person on 5 dies 3 tends 100;".repeat(6)
            + "promise 5 to 4 worth 1000000 said 99;".repeat(10));
        x.says(9);
        x.image(2);
        states[2] = Check.state(x);
        int[] order = {2, 1, 0, 2, 0, 1, 1};
        for (int k : order) {
            Check.due("back(" + k + ")", x.back(k), 0);
            Check.due("it is as image " + k + " has it", Check.state(x).equals(states[k]) ? 1 : 0, 1);
            // What is done then does not change the image.
            x.anew();
            x.tends(0, 1);
            x.shuts(0, 0, 1);
            x.promises(0, 1, 5);
            x.passes();
        }
        // Kept in place of another one.
        x.back(0);
        x.undo();
        String less = Check.state(x);
        x.image(2);
        x.back(1);
        Check.due("back(2)", x.back(2), 0);
        Check.due("it is as it was kept last", Check.state(x).equals(less) ? 1 : 0, 1);
        // No isles can be kept, too.
        x.isles();
        x.image(1);
        x.back(0);
        Check.due("back(1) to none", x.back(1), 0);
        Check.due("now() of none", x.now(), -2);
        Check.due("count(6) of none", x.count(6), 0);
        Check.due("undo() of none", x.undo(), -2);
    }

    /** Tape, fault and slots are not of an image. */
    private static void imagesAndTheRest() {
        MoonPromises x = Check.told(TEXT);
        Check.slot(x, 0, 1, 3);
        x.image(0);
        Check.tell(x, "?");
        x.feed(0x69736c65, 0x73203120, 0x61742039, 0x3b202020, 0x20202020);
        Check.slot(x, 0, 1, 2);
        Check.slot(x, 1, 1, 1);
        Check.due("back(0)", x.back(0), 0);
        Check.due("count(7)", x.count(7), 20);
        Check.due("fault(0)", x.fault(0), 1);
        Check.due("fault(1)", x.fault(1), 0);
        Check.due("wins(0)", x.wins(0), 0);
        Check.due("wins(1)", x.wins(1), 1);
        Check.due("count(9)", x.count(9), 2);
        Check.due("isles()", x.isles(), 1);
        Check.due("now()", x.now(), 9);
    }

    private static void rowsAndWidths() {
        MoonPromises x = new MoonPromises();
        Check.edges("row(s, 0, 1)", s -> x.row(s, 0, 1), Integer.MIN_VALUE, -2, -1, -2, 4, -2, Integer.MAX_VALUE, -2);
        Check.edges("row(0, w, 1)", w -> x.row(0, w, 1), Integer.MIN_VALUE, -2, -1, -2, 4, -2, 8, -2, Integer.MAX_VALUE, -2);
        Check.due("count(9): none came", x.count(9), 0);
        Check.edges("row(s, 0, 1)", s -> x.row(s, 0, 1), 0, 0, 1, 0, 2, 0, 3, 0);
        Check.edges("row(0, w, 1)", w -> x.row(0, w, 1), 0, 0, 1, 0, 2, 0, 3, 0);
        Check.edges("row(4, 0, n): no slot comes first", n -> x.row(4, 0, n), -1, -2, 0, -2, 61, -2);
        Check.edges("row(0, 4, n): no width comes first", n -> x.row(0, 4, n), -1, -2, 0, -2, 61, -2);
    }

    private static void sixtyNumbers() {
        MoonPromises x = new MoonPromises();
        for (int width = 0; width < 4; width++) {
            int w = width;
            Check.edges("row(0, " + width + ", n)", n -> x.row(0, w, n), Integer.MIN_VALUE, -3, -2, -3, -1, -3, 0, 0, 1, 0, 59, 0,
                60, 0, 61, -2, 62, -2, Integer.MAX_VALUE, -2);
            // The slot stays: of sixty numbers, the last can be written.
            Check.edges("row(0, " + width + ", n)", n -> x.row(0, w, n), -1, -3, 61, -2);
            Check.edges("write(0, i, 5)", i -> x.write(0, i, 5), 59, 0, 60, -7);
            for (int length = 0; length <= 60; length++) {
                Check.due("row(1, " + width + ", " + length + ")", x.row(1, width, length), 0);
                Check.edges("write(1, i, 5)", i -> x.write(1, i, 5), -1, -7, length, -7);
                Check.due("write(1, last, 5)", x.write(1, length - 1, 5), length == 0 ? -7 : 0);
            }
        }
    }

    private static void inPlaceOfAnother() {
        MoonPromises x = new MoonPromises();
        Check.slot(x, 0, 0, 1, 1, 1);
        Check.slot(x, 1, 0, 1, 1, 1);
        Check.due("wins(0)", x.wins(0), 1);
        // All 0: the numbers ahead do not shine through, in wider rows either.
        Check.due("row(0, 0, 3)", x.row(0, 0, 3), 0);
        Check.due("wins(0) of 0 0 0", x.wins(0), 0);
        Check.due("wins(1): another slot", x.wins(1), 1);
        Check.slot(x, 0, 0, 1, 1, 1);
        x.row(0, 0, 2);
        x.row(0, 0, 3);
        Check.due("wins(0) of less, then more", x.wins(0), 0);
        // Sixty numbers of one slot lie beside those of the next.
        long[] ones = new long[60];
        java.util.Arrays.fill(ones, 1);
        Check.slot(x, 1, 0, ones);
        x.row(0, 3, 60);
        x.row(2, 3, 60);
        x.row(3, 0, 8);
        Check.due("paste of the last", x.paste(1, 59, 3, 0, 1), 0);
        Check.due("turn(3)", x.turn(3), 0);
        Check.due("paste of the first", x.paste(1, 0, 3, 1, 1), 0);
        Check.due("wins(3) of two", x.wins(3), 0);
        // Refused, the slot stays.
        Check.refused("row(3, 0, n)", x, n -> x.row(3, 0, n), -1, -3);
        Check.refused("row(3, 0, n)", x, n -> x.row(3, 0, n), 61, -2);
        Check.refused("row(3, w, 1)", x, w -> x.row(3, w, 1), 4, -2);
    }

    private static void writing() {
        MoonPromises x = new MoonPromises();
        Check.edges("write(s, 0, 1)", s -> x.write(s, 0, 1), Integer.MIN_VALUE, -2, -1, -2, 0, -6, 1, -6, 2, -6, 3, -6, 4, -2,
            Integer.MAX_VALUE, -2);
        Check.edges("write(0, i, 1) of nothing", i -> x.write(0, i, 1), -1, -6, 0, -6, 60, -6);
        Check.edges("write(4, i, 1)", i -> x.write(4, i, 1), -1, -2, 0, -2, 60, -2);
        x.row(0, 2, 3);
        Check.edges("write(0, i, 1)", i -> x.write(0, i, 1), Integer.MIN_VALUE, -7, -1, -7, 0, 0, 1, 0, 2, 0, 3, -7,
            Integer.MAX_VALUE, -7);
        Check.due("turn(0) of 1 1 1", x.turn(0), 0);
        Check.refused("write(0, i, 5)", x, i -> x.write(0, i, 5), 3, -7);
        Check.refused("write(0, i, 5)", x, i -> x.write(0, i, 5), -1, -7);
        Check.refused("write(1, i, 5)", x, i -> x.write(1, i, 5), 0, -6);
        x.row(1, 2, 0);
        Check.edges("write(1, i, 1) of no numbers", i -> x.write(1, i, 1), -1, -7, 0, -7);
    }

    /** A number of so many bytes has a sign: seen by what a threat says of it. */
    private static void cutToItsWidth() {
        MoonPromises x = new MoonPromises();
        for (int width = 0; width < 4; width++) {
            int bits = 8 << width;
            long[] numbers = {0, 1, 2, 99, 100, -1, -2, Long.MIN_VALUE, Long.MAX_VALUE, 1L << bits - 1, (1L << bits - 1) - 1};
            for (long number : numbers) {
                for (int more = 0; more < 3; more++) {
                    long v = width == 3 ? number : number + ((long) more << bits);
                    long cut = width == 3 ? v : v << 64 - bits >> 64 - bits;
                    Check.slot(x, 0, width, v);
                    boolean none = cut < 0 || cut > 99;
                    boolean wins = cut == 1 || cut == 99;
                    Check.due("wins(0) of " + v + " cut to width " + width, x.wins(0), none ? -2 : wins ? 1 : 0);
                }
            }
        }
        // One bit above its width is cut off, one below is not.
        for (int width = 0; width < 3; width++) {
            Check.slot(x, 0, width, (1L << (8 << width)) + 1);
            Check.due("wins(0): cut", x.wins(0), 1);
            Check.slot(x, 0, width, (1L << (8 << width) - 1) + 1);
            Check.due("wins(0): not cut", x.wins(0), -2);
            Check.slot(x, 0, width + 1, (1L << (8 << width)) + 1);
            Check.due("wins(0): wider", x.wins(0), -2);
        }
    }

    private static void pastingOrder() {
        MoonPromises x = new MoonPromises();
        x.row(0, 0, 3);
        x.row(1, 1, 3);
        x.row(2, 0, 3);
        for (int s : new int[] {Integer.MIN_VALUE, -1, 4, Integer.MAX_VALUE}) {
            Check.refused("paste(s, 0, 0, 0, 1)", x, n -> x.paste(n, 0, 0, 0, 1), s, -2);
            Check.refused("paste(0, 0, s, 0, 1)", x, n -> x.paste(0, 0, n, 0, 1), s, -2);
            Check.refused("paste(3, 0, s, 0, 1): nothing, no slot", x, n -> x.paste(3, 0, n, 0, 1), s, -2);
            Check.refused("paste(s, 0, 3, 0, 1): no slot, nothing", x, n -> x.paste(n, 0, 3, 0, 1), s, -2);
        }
        Check.refused("paste(3, i, 0, 0, 1)", x, n -> x.paste(3, n, 0, 0, 1), -1, -6);
        Check.refused("paste(0, i, 3, 0, 1)", x, n -> x.paste(0, n, 3, 0, 1), -1, -6);
        Check.refused("paste(3, i, 3, 0, 1)", x, n -> x.paste(3, n, 3, 0, 1), 0, -6);
        Check.refused("paste(0, i, 1, 0, 1)", x, n -> x.paste(0, n, 1, 0, 1), -1, -8);
        Check.refused("paste(0, i, 1, 0, 1)", x, n -> x.paste(0, n, 1, 0, 1), 0, -8);
        Check.refused("paste(1, 0, 0, 0, n)", x, n -> x.paste(1, 0, 0, 0, n), 0, -8);
        Check.refused("paste(0, i, 2, 0, 1)", x, n -> x.paste(0, n, 2, 0, 1), -1, -7);
        Check.due("paste(0, 0, 2, 0, 1)", x.paste(0, 0, 2, 0, 1), 0);
        for (int width = 0; width < 4; width++) {
            for (int other = 0; other < 4; other++) {
                x.row(0, width, 1);
                x.row(1, other, 1);
                Check.due("paste of width " + width + " to " + other, x.paste(0, 0, 1, 0, 1), width == other ? 0 : -8);
            }
        }
    }

    private static void pastingPlaces() {
        MoonPromises x = new MoonPromises();
        Check.slot(x, 0, 1, 1, 2, 3);
        Check.slot(x, 1, 1, 9, 9, 9, 9, 9);
        for (int bad : new int[] {Integer.MIN_VALUE, -1, Integer.MAX_VALUE}) {
            Check.refused("paste(0, i, 1, 0, 1)", x, n -> x.paste(0, n, 1, 0, 1), bad, -7);
            Check.refused("paste(0, 0, 1, k, 1)", x, n -> x.paste(0, 0, 1, n, 1), bad, -7);
            Check.refused("paste(0, 0, 1, 0, n)", x, n -> x.paste(0, 0, 1, 0, n), bad, -7);
            Check.refused("paste(0, 1, 1, 0, n)", x, n -> x.paste(0, 1, 1, 0, n), bad, -7);
        }
        for (int i = 0; i <= 5; i++) {
            for (int k = 0; k <= 7; k++) {
                for (int n = 0; n <= 6; n++) {
                    Check.slot(x, 1, 1, 9, 9, 9, 9, 9);
                    boolean within = i + n <= 3 && k + n <= 5;
                    Check.due("paste(0, " + i + ", 1, " + k + ", " + n + ")", x.paste(0, i, 1, k, n), within ? 0 : -7);
                    long[] due = {9, 9, 9, 9, 9};
                    for (int j = 0; within && j < n; j++) {
                        due[k + j] = i + j + 1;
                    }
                    Check.slot(x, 2, 1, due);
                    Check.due("as due behind it", same(x, 1, 2, 5), 1);
                }
            }
        }
    }

    /** Whether two rows hold the same numbers of 0 .. 99: each pair of them is a lost threat. */
    private static int same(MoonPromises x, int slot, int other, int length) {
        for (int i = 0; i < length; i++) {
            x.row(3, 1, 2);
            x.paste(slot, i, 3, 0, 1);
            x.paste(other, i, 3, 1, 1);
            if (x.wins(3) != 0) {
                return 0;
            }
        }
        return 1;
    }

    private static void asTheyWere() {
        for (int i = 0; i <= 4; i++) {
            for (int k = 0; k <= 4; k++) {
                for (int n = 0; n <= 4 - Math.max(i, k); n++) {
                    MoonPromises x = new MoonPromises();
                    // By their values 1 2 0 1: each unlike the one beside it.
                    long[] numbers = {1, 3, 2, 4};
                    long[] due = numbers.clone();
                    System.arraycopy(numbers, i, due, k, n);
                    Check.slot(x, 0, 1, numbers);
                    Check.slot(x, 1, 1, due);
                    Check.due("paste to its own", x.paste(0, i, 0, k, n), 0);
                    Check.due("as they were", same(x, 0, 1, 4), 1);
                }
            }
        }
    }
}
