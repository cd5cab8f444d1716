/** Bounds of term II and promises 10 to 18: each just below, at and just above. */
public final class WorthBoundsTest {
    private static final String ON = "person on 0;";
    private static final int NO_SUM = -2000000000;

    private WorthBoundsTest() {
    }

    public static void main(String[] args) {
        sinceTheLast();
        drunkInItsFirst();
        theMoonOfDeath();
        uponAnother();
        roundedUp();
        halvedAway();
        falling();
        owing();
        summing();
        theRichest();
        theGreatest();
        rootsAndUpon();
        noneSuch();
        Check.finish("WorthBoundsTest");
    }

    private static MoonPromises two(int now, String rest) {
        return Check.told("isles 1 at " + now + ";" + ON + ON + rest);
    }

    private static void halvings(MoonPromises x, int promise, int... pairs) {
        Check.edges("halvings(" + promise + ", m)", m -> x.halvings(promise, m), pairs);
    }

    private static void worths(MoonPromises x, int promise, int... pairs) {
        Check.edges("worth(" + promise + ", m)", m -> x.worth(promise, m), pairs);
    }

    private static void sinceTheLast() {
        MoonPromises x = two(50, "promise 0 to 1 worth 100 said 47;promise 0 to 1 worth 100 said 0;");
        halvings(x, 0, -1, -2, 0, -1, 46, -1, 47, 0, 48, 1, 49, 2, 50, 3, 51, 4, 99, 52, 100, -2);
        worths(x, 0, -1, -2, 0, 0, 46, 0, 47, 100, 48, 50, 49, 25, 50, 13, 51, 7, 99, 1, 100, -2);
        halvings(x, 1, 0, 0, 1, 1, 99, 99);
        // Said again in 51 and 53: no later than the moon asked for.
        x.passes();
        x.says(0);
        x.passes();
        x.passes();
        x.says(0);
        halvings(x, 0, 46, -1, 47, 0, 50, 3, 51, 0, 52, 1, 53, 0, 54, 1, 99, 46);
        worths(x, 0, 50, 13, 51, 100, 52, 50, 53, 100, 54, 50);
        // Rows of moons meet at 49 and 50, in the last moon too.
        MoonPromises y = two(48, "promise 0 to 1 worth 64 said 0;");
        for (int moon = 49; moon <= 51; moon++) {
            y.passes();
            y.says(0);
            halvings(y, 0, moon - 1, moon == 49 ? 48 : 0, moon, 0, moon + 1, 1);
        }
        MoonPromises z = two(98, "promise 0 to 1 worth 64 said 97;");
        z.passes();
        Check.due("says(0) in 99", z.says(0), 64);
        halvings(z, 0, 96, -1, 97, 0, 98, 1, 99, 0, 100, -2);
    }

    private static void drunkInItsFirst() {
        MoonPromises x = two(5, "promise 0 to 1 worth 8 said 5 drunk;promise 0 to 1 worth 8 said 5;");
        halvings(x, 0, 4, -1, 5, 1, 6, 2);
        halvings(x, 1, 4, -1, 5, 0, 6, 1);
        // Said again in its first moon: that is its first all the same.
        Check.due("says(0) in its first", x.says(0), 4);
        halvings(x, 0, 4, -1, 5, 1, 6, 2);
        x.passes();
        Check.due("says(0) behind its first", x.says(0), 8);
        halvings(x, 0, 4, -1, 5, 1, 6, 0, 7, 1);
        x.undo();
        halvings(x, 0, 5, 1, 6, 2, 7, 3);
    }

    private static void theMoonOfDeath() {
        MoonPromises x = Check.told("isles 1 at 5;person on 0 dies 8;person on 0 dies 0;person on 0 dies 99;" + ON
            + "promise 0 to 3 worth 99 said 5;promise 1 to 3 worth 99 said 0;promise 2 to 3 worth 99 said 5;"
            + "promise 3 to 0 worth 99 said 5;promise 1 to 3 worth 99 said 5;");
        halvings(x, 0, 5, 0, 6, 1, 7, 2, 8, 3, 9, 5, 10, 7);
        halvings(x, 1, 0, 0, 1, 2, 2, 4);
        halvings(x, 2, 98, 93, 99, 94);
        // Of who owes it, not of the other one.
        halvings(x, 3, 7, 2, 8, 3, 9, 4, 10, 5);
        // Dead before it was said.
        halvings(x, 4, 4, -1, 5, 5, 6, 7);
    }

    private static void uponAnother() {
        MoonPromises x = two(9, "promise 0 to 1 worth 100 said 7;promise 1 to 0 worth 64 said 5 on 0;"
            + "promise 0 to 1 worth 32 said 8 drunk on 1;promise 0 to 1 worth 16 said 3;");
        halvings(x, 0, 6, -1, 7, 0, 8, 1, 9, 2);
        halvings(x, 1, 4, -1, 5, -1, 6, -1, 7, 2, 8, 4, 9, 6);
        halvings(x, 2, 7, -1, 8, 1 + 3 + 1, 9, 2 + 4 + 2);
        worths(x, 1, 6, 0, 7, 16, 8, 4, 9, 1);
        worths(x, 2, 7, 0, 8, 1, 9, 1);
        // What that is on which it is said again counts for it too; what is on it does not.
        x.says(0);
        halvings(x, 1, 7, 2, 8, 4, 9, 4, 10, 6);
        halvings(x, 2, 9, 2 + 4);
        x.says(2);
        halvings(x, 2, 8, 1 + 3 + 1, 9, 0 + 4 + 0);
        halvings(x, 0, 9, 0);
        halvings(x, 3, 9, 6);
        // Ten on one another.
        StringBuilder text = new StringBuilder("promise 0 to 1 worth 1000000 said 0;");
        for (int p = 1; p < 10; p++) {
            text.append("promise 0 to 1 worth 1000000 said 0 on ").append(p - 1).append(";");
        }
        MoonPromises y = Check.told("isles 1 at 0;person on 0 dies 0;" + ON + text);
        halvings(y, 9, 0, 0, 1, 20, 99, 10 * 198);
        worths(y, 9, 0, 1000000, 1, 1, 99, 1);
        halvings(y, 8, 1, 18);
        worths(y, 8, 1, 4);
    }

    private static void roundedUp() {
        for (int full : new int[] {1, 2, 3, 4, 5, 7, 8, 9, 524287, 524288, 524289, 999999, 1000000}) {
            MoonPromises x = two(0, "promise 0 to 1 worth " + full + " said 0;");
            for (int moon = 0; moon <= 99; moon++) {
                int due = full;
                for (int i = 0; i < moon; i++) {
                    due = due / 2 + due % 2;
                }
                Check.due("worth of " + full + " in " + moon, x.worth(0, moon), due);
            }
        }
        MoonPromises y = two(0, "promise 0 to 1 worth 524288 said 0;promise 0 to 1 worth 524289 said 0;");
        worths(y, 0, 18, 2, 19, 1, 20, 1);
        worths(y, 1, 18, 3, 19, 2, 20, 1);
    }

    /** So many halvings that a shift of them would wrap around. */
    private static void halvedAway() {
        MoonPromises x = Check.told("isles 1 at 0;person on 0 dies 0;" + ON
            + "promise 0 to 1 worth 1000000 said 0;promise 0 to 1 worth 1000000 said 0 on 0;");
        for (int moon = 5; moon <= 99; moon++) {
            Check.due("halvings(1, " + moon + ")", x.halvings(1, moon), 4 * moon);
            Check.due("worth(1, " + moon + ")", x.worth(1, moon), 1);
        }
        MoonPromises y = two(0, "promise 0 to 1 worth 1000000 said 0;");
        worths(y, 0, 19, 2, 20, 1, 30, 1, 31, 1, 32, 1, 33, 1, 63, 1, 64, 1, 65, 1, 96, 1);
    }

    private static void falling() {
        MoonPromises x = two(5, "promise 0 to 1 worth 100 said 4;promise 0 to 1 worth 1 said 5;"
            + "promise 1 to 0 worth 100 said 5 on 0;");
        Check.edges("falls(0, n)", n -> x.falls(0, n), Integer.MIN_VALUE, -1, -1, -1, 0, -1, 1, 11, 2, 10, 3, 10, 4, 9,
            12, 8, 13, 7, 24, 7, 25, 6, 49, 6, 50, 5, 51, 5, 100, 5, Integer.MAX_VALUE, 5);
        Check.edges("falls(1, n)", n -> x.falls(1, n), 0, -1, 1, 5, 2, 5);
        Check.edges("falls(2, n)", n -> x.falls(2, n), 12, 7, 13, 6, 49, 6, 50, 5);
        Check.edges("falls(p, 1)", p -> x.falls(p, 1), -1, -2, 2, 8, 3, -2);
        // From the one now: what it was worth ahead of that does not count, what is said now does.
        x.passes();
        Check.edges("falls(0, n) in 6", n -> x.falls(0, n), 24, 7, 25, 6, 26, 6, 99, 6);
        x.says(0);
        Check.edges("falls(0, n) said in 6", n -> x.falls(0, n), 24, 9, 25, 8, 49, 8, 50, 7, 99, 7, 100, 6);
        // To 99.
        MoonPromises y = two(97, "promise 0 to 1 worth 8 said 97;");
        Check.edges("falls(0, n) to 99", n -> y.falls(0, n), 1, -1, 2, 99, 3, 99, 4, 98, 7, 98, 8, 97);
    }

    private static void owing() {
        MoonPromises x = Check.told("isles 1 at 5;" + ON + ON + ON + "promise 0 to 1 worth 9 said 5;"
            + "promise 0 to 1 worth 8 said 4;promise 1 to 0 worth 77 said 5;promise 0 to 2 worth 6 said 5;");
        Check.edges("owed(0, 1, m)", m -> x.owed(0, 1, m), -1, -2, 0, 0, 3, 0, 4, 8, 5, 13, 6, 7, 99, 2, 100, -2);
        Check.edges("owed(0, q, 5)", q -> x.owed(0, q, 5), -1, -2, 0, -2, 1, 13, 2, 6, 3, -2);
        Check.edges("owed(q, 0, 5)", q -> x.owed(q, 0, 5), -1, -2, 0, -2, 1, 77, 2, 0, 3, -2);
        MoonPromises all = two(5, "promise 0 to 1 worth 1000000 said 5;".repeat(10));
        Check.due("owed(0, 1, 5) of ten", all.owed(0, 1, 5), 10000000);
    }

    private static void summing() {
        MoonPromises x = Check.told("isles 1 at 5;" + ON + ON + ON + "promise 0 to 1 worth 9 said 5;"
            + "promise 0 to 2 worth 8 said 4;promise 1 to 0 worth 7 said 5;");
        Check.edges("sum(0, 5, what)", w -> x.sum(0, 5, w), -1, NO_SUM, 0, 13, 1, 7, 2, -6, 3, NO_SUM);
        Check.edges("sum(p, 5, 0)", p -> x.sum(p, 5, 0), -1, NO_SUM, 0, 13, 1, 7, 2, 0, 3, NO_SUM);
        Check.edges("sum(p, 5, 1)", p -> x.sum(p, 5, 1), -1, NO_SUM, 0, 7, 1, 9, 2, 4, 3, NO_SUM);
        Check.edges("sum(p, 5, 2)", p -> x.sum(p, 5, 2), -1, NO_SUM, 0, -6, 1, 2, 2, 4, 3, NO_SUM);
        Check.edges("sum(0, m, 0)", m -> x.sum(0, m, 0), -1, NO_SUM, 0, 0, 3, 0, 4, 8, 5, 13, 99, 2, 100, NO_SUM);
        MoonPromises all = two(5, "promise 0 to 1 worth 1000000 said 5;".repeat(10));
        Check.due("sum(0, 5, 2) of ten", all.sum(0, 5, 2), -10000000);
        Check.due("sum(1, 5, 2) of ten", all.sum(1, 5, 2), 10000000);
    }

    private static void theRichest() {
        MoonPromises none = Check.told("isles 1 at 5;");
        Check.edges("richest(m) of none", m -> none.richest(m), -1, -2, 0, -1, 5, -1, 99, -1, 100, -2);
        MoonPromises one = Check.told("isles 1 at 5;" + ON);
        Check.edges("richest(m) of one", m -> one.richest(m), -1, -2, 0, 0, 99, 0, 100, -2);
        // The first of several, and one more than that.
        String people = "isles 1 at 5;" + ON.repeat(6);
        Check.due("richest(5): all alike", Check.told(people).richest(5), 0);
        MoonPromises tied = Check.told(people + "promise 0 to 4 worth 9 said 5;promise 0 to 2 worth 9 said 5;"
            + "promise 0 to 5 worth 9 said 5;");
        Check.due("richest(5): the first of three", tied.richest(5), 2);
        Check.due("promises(1, 5, 1)", tied.promises(1, 5, 1), 3);
        Check.due("richest(5): one more", tied.richest(5), 5);
        Check.due("richest(4): none said yet", tied.richest(4), 0);
        // Less what it owes.
        tied.promises(5, 3, 1);
        Check.due("richest(5): less what it owes", tied.richest(5), 2);
        tied.promises(2, 3, 1);
        Check.due("richest(5): less what it owes again", tied.richest(5), 4);
        MoonPromises x = new MoonPromises();
        Check.edges("richest(m) without isles", m -> x.richest(m), -1, -2, 0, -2, 5, -2, 99, -2, 100, -2);
    }

    private static void theGreatest() {
        MoonPromises none = two(5, "");
        Check.edges("greatest(m) of none", m -> none.greatest(m), -1, -2, 0, -1, 5, -1, 99, -1, 100, -2);
        MoonPromises x = two(5, "promise 0 to 1 worth 8 said 3;promise 0 to 1 worth 4 said 4;promise 0 to 1 worth 5 said 4;"
            + "promise 0 to 1 worth 2 said 5;promise 0 to 1 worth 3 said 5;");
        Check.edges("greatest(m)", m -> x.greatest(m), -1, -2, 0, -1, 2, -1, 3, 0, 4, 2, 5, 2, 6, 2, 7, 0, 8, 0, 99, 0,
            100, -2);
        MoonPromises tied = two(5, "promise 0 to 1 worth 3 said 5;promise 0 to 1 worth 4 said 5;promise 0 to 1 worth 8 said 4;");
        Check.due("greatest(5): the first of two", tied.greatest(5), 1);
        MoonPromises y = new MoonPromises();
        Check.edges("greatest(m) without isles", m -> y.greatest(m), -1, -2, 0, -2, 99, -2, 100, -2);
    }

    private static void rootsAndUpon() {
        StringBuilder text = new StringBuilder("promise 0 to 1 worth 5 said 0;");
        for (int p = 1; p < 10; p++) {
            text.append("promise 0 to 1 worth 5 said 0 on ").append(p - 1).append(";");
        }
        MoonPromises chain = two(5, text.toString());
        for (int p = 0; p < 10; p++) {
            Check.due("root of a chain", chain.root(p), 0);
            Check.due("upon of a chain", chain.upon(p), 1023 >> p + 1 << p + 1);
        }
        Check.edges("root(p)", p -> chain.root(p), -1, -2, 0, 0, 9, 0, 10, -2);
        Check.edges("upon(p)", p -> chain.upon(p), -1, -2, 0, 1022, 8, 512, 9, 0, 10, -2);
        MoonPromises x = two(5, "promise 0 to 1 worth 5 said 0;promise 0 to 1 worth 5 said 0;"
            + "promise 0 to 1 worth 5 said 0 on 0;promise 0 to 1 worth 5 said 0 on 1;promise 0 to 1 worth 5 said 0 on 2;");
        Check.edges("root(p)", p -> x.root(p), 0, 0, 1, 1, 2, 0, 3, 1, 4, 0, 5, -2);
        Check.edges("upon(p)", p -> x.upon(p), 0, 4 + 16, 1, 8, 2, 16, 3, 0, 4, 0, 5, -2);
    }

    private static void noneSuch() {
        for (int promises = 0; promises <= 10; promises++) {
            MoonPromises x = two(5, "promise 0 to 1 worth 8 said 4;".repeat(promises));
            int some = promises == 0 ? -2 : 0;
            int last = promises - 1;
            Check.edges("halvings(p, 5)", p -> x.halvings(p, 5), -1, -2, last, promises == 0 ? -2 : 1, promises, -2, 10, -2);
            Check.edges("worth(p, 5)", p -> x.worth(p, 5), -1, -2, last, promises == 0 ? -2 : 4, promises, -2, 10, -2);
            Check.edges("falls(p, 5)", p -> x.falls(p, 5), -1, -2, last, promises == 0 ? -2 : 5, promises, -2, 10, -2);
            Check.edges("root(p)", p -> x.root(p), -1, -2, last, promises == 0 ? -2 : last, promises, -2, 10, -2);
            Check.edges("upon(p)", p -> x.upon(p), -1, -2, last, some, promises, -2, 10, -2);
        }
        MoonPromises none = new MoonPromises();
        Check.due("halvings(0, 0) without isles", none.halvings(0, 0), -2);
        Check.due("worth(0, 0) without isles", none.worth(0, 0), -2);
        Check.due("falls(0, 0) without isles", none.falls(0, 0), -2);
        Check.due("owed(0, 1, 0) without isles", none.owed(0, 1, 0), -2);
        Check.due("sum(0, 0, 0) without isles", none.sum(0, 0, 0), NO_SUM);
        Check.due("root(0) without isles", none.root(0), -2);
        Check.due("upon(0) without isles", none.upon(0), -2);
    }
}
