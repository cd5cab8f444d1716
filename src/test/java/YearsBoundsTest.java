/** Bounds of term VIII and promises 50 to 52: each just below, at and just above. */
public final class YearsBoundsTest {
    private static final String ON = "person on 0;";

    private YearsBoundsTest() {
    }

    public static void main(String[] args) {
        seeds();
        moons();
        soManyYears();
        promises();
        toNinetyNine();
        belowHisTends();
        drawsOneByOne();
        aliveBoth();
        halfAtLeast();
        seedsOneByOne();
        nothingChanges();
        Check.finish("YearsBoundsTest");
    }

    private static MoonPromises two(int now, int tends, String rest) {
        return Check.told("isles 2 at " + now + ";person on 0 tends " + tends + ";person on 1;" + rest);
    }

    private static void all(MoonPromises x, int seed, int n, int promise, int drawn, int often, int lucky) {
        String call = "(" + seed + ", " + n + ", " + promise + ")";
        Check.due("drawn" + call, x.drawn(seed, n, promise), drawn);
        Check.due("often" + call, x.often(seed, n, promise), often);
        Check.due("lucky" + call, x.lucky(seed, 1, n, promise), lucky);
    }

    private static void seeds() {
        MoonPromises x = two(5, 100, "promise 0 to 1 worth 9 said 0;");
        for (int seed : new int[] {Integer.MIN_VALUE, -1, 2000000001, Integer.MAX_VALUE}) {
            all(x, seed, 1, 0, -2, -2, -2);
        }
        for (int seed : new int[] {0, 1, 1999999999, 2000000000}) {
            all(x, seed, 1, 0, 9, 1, 1);
        }
        // Of more than one the first alone is held to that.
        Check.edges("lucky(seed, 20, 1, 0)", s -> x.lucky(s, 20, 1, 0), -1, -2, 0, 20, 1999999981, 20, 2000000000, 20, 2000000001, -2);
    }

    private static void moons() {
        MoonPromises x = two(5, 100, "promise 0 to 1 worth 9 said 0;");
        for (int n : new int[] {Integer.MIN_VALUE, -1, 0, 41, 42, Integer.MAX_VALUE}) {
            all(x, 7, n, 0, -2, -2, -2);
        }
        for (int n : new int[] {1, 2, 39, 40}) {
            all(x, 7, n, 0, 9, n, 1);
        }
    }

    private static void soManyYears() {
        MoonPromises x = two(5, 100, "promise 0 to 1 worth 9 said 0;");
        Check.edges("lucky(7, m, 1, 0)", m -> x.lucky(7, m, 1, 0), Integer.MIN_VALUE, -2, -1, -2, 0, -2, 1, 1, 2, 2, 19, 19, 20, 20,
            21, -2, Integer.MAX_VALUE, -2);
    }

    private static void promises() {
        MoonPromises x = two(5, 100, "promise 0 to 1 worth 9 said 0;promise 0 to 1 worth 8 said 0;");
        all(x, 7, 1, -1, -2, -2, -2);
        all(x, 7, 1, 0, 9, 1, 1);
        all(x, 7, 1, 1, 8, 1, 1);
        all(x, 7, 1, 2, -2, -2, -2);
        all(x, 7, 1, 10, -2, -2, -2);
        all(new MoonPromises(), 7, 1, 0, -2, -2, -2);
        all(two(5, 100, ""), 7, 1, 0, -2, -2, -2);
    }

    private static void toNinetyNine() {
        for (int n = 1; n <= 40; n += 13) {
            MoonPromises x = two(99 - n, 100, "promise 0 to 1 worth 9 said 0;");
            all(x, 7, n, 0, 9, n, 1);
            all(x, 7, n + 1, 0, -2, -2, -2);
            // From the moon now.
            x.passes();
            all(x, 7, n, 0, -2, -2, -2);
        }
    }

    private static int next(int state) {
        return (int) ((1103515245L * state + 12345) % 2147483648L);
    }

    private static void belowHisTends() {
        for (int seed : new int[] {0, 1, 7, 99, 65536, 123456789, 1999999999, 2000000000}) {
            int draw = next(seed) / 65536 % 100;
            MoonPromises x = two(5, 0, "promise 0 to 1 worth 64 said 5;");
            for (int tends : new int[] {0, draw - 1, draw, draw + 1, 100}) {
                if (tends < 0) {
                    continue;
                }
                x.tends(0, tends);
                boolean says = draw < tends;
                all(x, seed, 1, 0, says ? 64 : 32, says ? 1 : 0, 1);
            }
        }
    }

    /** In each moon promise by promise: the k-th draw is that of promise k % 3. */
    private static void drawsOneByOne() {
        for (int seed = 0; seed < 50; seed++) {
            MoonPromises x = two(5, 50, "promise 0 to 1 worth 1024 said 5;promise 1 to 0 worth 1024 said 5;promise 0 to 1 worth 1024 said 5;");
            x.tends(1, 30);
            int[] often = new int[3];
            int[] since = new int[3];
            int state = seed;
            for (int n = 1; n <= 6; n++) {
                for (int p = 0; p < 3; p++) {
                    state = next(state);
                    boolean says = state / 65536 % 100 < (p == 1 ? 30 : 50);
                    often[p] += says ? 1 : 0;
                    since[p] = says ? 0 : since[p] + 1;
                }
                for (int p = 0; p < 3; p++) {
                    all(x, seed, n, p, 1024 >> since[p], often[p], since[p] <= 1 ? 1 : 0);
                }
            }
        }
    }

    private static void aliveBoth() {
        for (int dies = 5; dies <= 9; dies++) {
            String mortal = "person on 0 dies " + dies + " tends 100;";
            int says = Math.max(0, Math.min(3, dies - 6));
            MoonPromises own = Check.told("isles 1 at 5;" + mortal + ON + "promise 0 to 1 worth 64 said 5;");
            all(own, 7, 3, 0, 64 >> 3 - says + Math.max(0, 8 - dies), says, says >= 2 ? 1 : 0);
            MoonPromises other = Check.told("isles 1 at 5;person on 0 tends 100;" + mortal + "promise 0 to 1 worth 64 said 5;");
            all(other, 7, 3, 0, 64 >> 3 - says, says, says >= 2 ? 1 : 0);
        }
        // Of the dead there is no draw: the next one is that of the living.
        for (int seed = 0; seed < 30; seed++) {
            String rest = ";person on 0 tends 50;" + ON + "promise 0 to 1 worth 64 said 5;promise 1 to 2 worth 64 said 5;";
            MoonPromises dead = Check.told("isles 1 at 5;person on 0 dies 6" + rest);
            int draw = next(seed) / 65536 % 100;
            Check.due("often of the living, one dead", dead.often(seed, 1, 1), draw < 50 ? 1 : 0);
            MoonPromises alive = Check.told("isles 1 at 5;person on 0 dies 7" + rest);
            int second = next(next(seed)) / 65536 % 100;
            Check.due("often of the living, none dead", alive.often(seed, 1, 1), second < 50 ? 1 : 0);
        }
    }

    private static void halfAtLeast() {
        // Never said again: halved n times and rounded up.
        int[][] due = {{1, 1, 1}, {1, 40, 1}, {2, 1, 1}, {2, 2, 1}, {2, 40, 1}, {3, 1, 1}, {3, 2, 0}, {4, 1, 1}, {4, 2, 0},
            {9, 1, 1}, {9, 2, 0}, {1000000, 1, 1}, {1000000, 2, 0}, {999999, 1, 1}, {999999, 2, 0}};
        for (int[] d : due) {
            MoonPromises x = two(5, 0, "promise 0 to 1 worth " + d[0] + " said 5;");
            Check.due("lucky of " + d[0] + " behind " + d[1], x.lucky(7, 1, d[1], 0), d[2]);
            Check.due("lucky of twenty", x.lucky(7, 20, d[1], 0), 20 * d[2]);
        }
        // With those of what it is on.
        MoonPromises on = two(5, 100, "promise 1 to 0 worth 8 said 5;promise 0 to 1 worth 8 said 5 on 0;");
        Check.edges("lucky(7, 1, n, 1)", n -> on.lucky(7, 1, n, 1), 1, 1, 2, 0);
        Check.edges("drawn(7, n, 1)", n -> on.drawn(7, n, 1), 1, 4, 2, 2);
    }

    private static void seedsOneByOne() {
        MoonPromises x = two(5, 50, "promise 0 to 1 worth 64 said 4;");
        int lucky = 0;
        for (int m = 1; m <= 20; m++) {
            // Said in the next moon, or worth a fourth.
            lucky += next(1000 + m - 1) / 65536 % 100 < 50 ? 1 : 0;
            Check.due("lucky(1000, " + m + ", 1, 0)", x.lucky(1000, m, 1, 0), lucky);
        }
        int far = 0;
        for (int i = 0; i < 20; i++) {
            far += (1103515245L * (2000000000L + i) + 12345) % 2147483648L / 65536 % 100 < 50 ? 1 : 0;
        }
        Check.due("lucky(2000000000, 20, 1, 0)", x.lucky(2000000000, 20, 1, 0), far);
    }

    private static void nothingChanges() {
        MoonPromises x = two(5, 50, "promise 0 to 1 worth 64 said 4;promise 1 to 0 worth 64 said 5 on 0;");
        x.says(1);
        x.passes();
        String before = Check.state(x);
        int drawn = x.drawn(3, 9, 1);
        x.often(3, 40, 0);
        x.lucky(3, 20, 40, 1);
        Check.due("nothing changes", Check.state(x).equals(before) ? 1 : 0, 1);
        Check.due("drawn(3, 9, 1) again", x.drawn(3, 9, 1), drawn);
        // Wherever they are: they live on two isles. What is said so far counts.
        MoonPromises y = two(5, 0, "promise 0 to 1 worth 64 said 0;");
        all(y, 3, 1, 0, 1, 0, 0);
        MoonPromises z = Check.told("isles 1 at 5;" + ON + ON + "promise 0 to 1 worth 64 said 0;");
        z.says(0);
        all(z, 3, 1, 0, 32, 0, 1);
        z.passes();
        all(z, 3, 1, 0, 16, 0, 0);
    }
}
