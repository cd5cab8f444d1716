/** Promises 10 to 18: halvings, worths, what is owed to whom, what stands on what. */
public final class WorthTest {
    private static final String TEXT = "isles 3 at 5;person on 0;person on 0 dies 7;person on 0;"
        + "promise 0 to 1 worth 100 said 4;promise 1 to 2 worth 81 said 3 drunk;"
        + "promise 2 to 0 worth 7 said 5;promise 0 to 2 worth 1000 said 5 on 0;"
        + "promise 0 to 1 worth 64 said 2 on 3 drunk;";

    private WorthTest() {
    }

    public static void main(String[] args) {
        halvingsAndWorths();
        saidAgain();
        falling();
        sums();
        greatestWorths();
        rootsAndWhatIsUpon();
        wrongOnes();
        Check.finish("WorthTest");
    }

    private static void at(MoonPromises x, int promise, int moon, int halvings, int worth) {
        Check.due("halvings(" + promise + ", " + moon + ")", x.halvings(promise, moon), halvings);
        Check.due("worth(" + promise + ", " + moon + ")", x.worth(promise, moon), worth);
    }

    private static void halvingsAndWorths() {
        MoonPromises x = Check.told(TEXT);
        at(x, 0, 3, -1, 0);
        at(x, 0, 4, 0, 100);
        at(x, 0, 5, 1, 50);
        at(x, 0, 7, 3, 13);
        at(x, 0, 10, 6, 2);
        at(x, 0, 99, 95, 1);
        // Drunk: one more; its ower is dead from moon 7 on, which counts from moon 8 on.
        at(x, 1, 2, -1, 0);
        at(x, 1, 3, 1, 41);
        at(x, 1, 5, 3, 11);
        at(x, 1, 7, 5, 3);
        at(x, 1, 8, 7, 1);
        at(x, 1, 10, 11, 1);
        // On another: not said before that was.
        at(x, 3, 4, -1, 0);
        at(x, 3, 5, 1, 500);
        at(x, 3, 10, 11, 1);
        at(x, 4, 4, -1, 0);
        at(x, 4, 5, 5, 2);
        at(x, 4, 0, -1, 0);
    }

    private static void saidAgain() {
        MoonPromises x = Check.told(TEXT);
        x.passes();
        Check.due("says(1) in moon 6", x.says(1), 81);
        at(x, 1, 5, 3, 11);
        at(x, 1, 6, 0, 81);
        at(x, 1, 7, 1, 41);
        at(x, 1, 8, 3, 11);
        Check.due("says(0) in moon 6", x.says(0), 100);
        at(x, 3, 6, 1, 500);
        at(x, 3, 5, 1, 500);
        // Said again in its first moon it is as drunk as before.
        MoonPromises y = Check.told("isles 1 at 60;person on 0;person on 0;"
            + "promise 0 to 1 worth 9 said 60 drunk;promise 0 to 1 worth 9 said 40;");
        Check.due("says(0) in its first moon", y.says(0), 5);
        at(y, 0, 60, 1, 5);
        at(y, 1, 60, 20, 1);
        y.passes();
        Check.due("says(0) in the next moon", y.says(0), 9);
        y.passes();
        at(y, 0, 59, -1, 0);
        at(y, 0, 60, 1, 5);
        at(y, 0, 61, 0, 9);
        at(y, 0, 62, 1, 5);
        at(y, 0, 63, 2, 3);
    }

    private static void falling() {
        MoonPromises x = Check.told(TEXT);
        Check.due("falls(0, 50)", x.falls(0, 50), 5);
        Check.due("falls(0, 49)", x.falls(0, 49), 6);
        Check.due("falls(0, 25)", x.falls(0, 25), 6);
        Check.due("falls(0, 1)", x.falls(0, 1), 11);
        Check.due("falls(0, 0)", x.falls(0, 0), -1);
        Check.due("falls(0, -5)", x.falls(0, -5), -1);
        Check.due("falls(0, 2000000000)", x.falls(0, 2000000000), 5);
        Check.due("falls(1, 1)", x.falls(1, 1), 8);
        x.passes();
        x.says(0);
        Check.due("falls(0, 50) said again", x.falls(0, 50), 7);
        MoonPromises y = Check.told("isles 1 at 99;person on 0;person on 0;promise 0 to 1 worth 9 said 99;");
        Check.due("falls(0, 8) in the last moon", y.falls(0, 8), -1);
        Check.due("falls(0, 9) in the last moon", y.falls(0, 9), 99);
    }

    private static void sums() {
        MoonPromises x = Check.told(TEXT);
        Check.due("owed(0, 1, 5)", x.owed(0, 1, 5), 52);
        Check.due("owed(0, 1, 4)", x.owed(0, 1, 4), 100);
        Check.due("owed(0, 1, 1)", x.owed(0, 1, 1), 0);
        Check.due("owed(1, 0, 5)", x.owed(1, 0, 5), 0);
        Check.due("owed(0, 2, 5)", x.owed(0, 2, 5), 500);
        Check.due("owed(1, 2, 5)", x.owed(1, 2, 5), 11);
        Check.due("owed(2, 0, 5)", x.owed(2, 0, 5), 7);
        int[][] sums = {{552, 7, -545}, {11, 52, 41}, {7, 511, 504}};
        for (int p = 0; p < 3; p++) {
            for (int what = 0; what < 3; what++) {
                Check.due("sum(" + p + ", 5, " + what + ")", x.sum(p, 5, what), sums[p][what]);
            }
        }
        Check.due("richest(5)", x.richest(5), 2);
        Check.due("richest(4)", x.richest(4), 1);
        Check.due("richest(0)", x.richest(0), 0);
        Check.due("richest(99)", x.richest(99), 1);
    }

    private static void greatestWorths() {
        MoonPromises x = Check.told(TEXT);
        Check.due("greatest(5)", x.greatest(5), 3);
        Check.due("greatest(4)", x.greatest(4), 0);
        Check.due("greatest(3)", x.greatest(3), 1);
        Check.due("greatest(2)", x.greatest(2), -1);
        Check.due("greatest(99)", x.greatest(99), 0);
        MoonPromises none = Check.told("isles 1 at 5;");
        Check.due("greatest(5) of none", none.greatest(5), -1);
        Check.due("richest(5) of none", none.richest(5), -1);
        Check.due("greatest(100) of none", none.greatest(100), -2);
        Check.due("richest(100) of none", none.richest(100), -2);
    }

    private static void rootsAndWhatIsUpon() {
        MoonPromises x = Check.told(TEXT + "promise 0 to 1 worth 3 said 1 on 1;promise 1 to 0 worth 3 said 1 on 4;");
        int[] roots = {0, 1, 2, 0, 0, 1, 0};
        int[] upon = {8 + 16 + 64, 32, 0, 16 + 64, 64, 0, 0};
        for (int p = 0; p < 7; p++) {
            Check.due("root(" + p + ")", x.root(p), roots[p]);
            Check.due("upon(" + p + ")", x.upon(p), upon[p]);
        }
    }

    private static void wrongOnes() {
        MoonPromises x = Check.told(TEXT);
        int[] wrong = {-1, 100, Integer.MIN_VALUE, Integer.MAX_VALUE};
        for (int w : wrong) {
            Check.due("halvings(0, wrong)", x.halvings(0, w), -2);
            Check.due("halvings(wrong, 5)", x.halvings(w, 5), -2);
            Check.due("worth(0, wrong)", x.worth(0, w), -2);
            Check.due("worth(wrong, 5)", x.worth(w, 5), -2);
            Check.due("falls(wrong, 5)", x.falls(w, 5), -2);
            Check.due("owed(wrong, 0, 5)", x.owed(w, 0, 5), -2);
            Check.due("owed(0, wrong, 5)", x.owed(0, w, 5), -2);
            Check.due("owed(0, 1, wrong)", x.owed(0, 1, w), -2);
            Check.due("sum(wrong, 5, 0)", x.sum(w, 5, 0), -2000000000);
            Check.due("sum(0, wrong, 0)", x.sum(0, w, 0), -2000000000);
            Check.due("sum(0, 5, wrong)", x.sum(0, 5, w), -2000000000);
            Check.due("richest(wrong)", x.richest(w), -2);
            Check.due("greatest(wrong)", x.greatest(w), -2);
            Check.due("root(wrong)", x.root(w), -2);
            Check.due("upon(wrong)", x.upon(w), -2);
        }
        Check.due("halvings(5, 5)", x.halvings(5, 5), -2);
        Check.due("owed(0, 0, 5)", x.owed(0, 0, 5), -2);
        Check.due("owed(0, 3, 5)", x.owed(0, 3, 5), -2);
        Check.due("sum(3, 5, 0)", x.sum(3, 5, 0), -2000000000);
        Check.due("sum(0, 5, 3)", x.sum(0, 5, 3), -2000000000);
        MoonPromises none = new MoonPromises();
        Check.due("greatest(5) without isles", none.greatest(5), -2);
        Check.due("richest(5) without isles", none.richest(5), -2);
        Check.due("sum(0, 0, 0) without isles", none.sum(0, 0, 0), -2000000000);
    }
}
