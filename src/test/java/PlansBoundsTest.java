/** Bounds of term IV and promises 30 to 36: each just below, at and just above. */
public final class PlansBoundsTest {
    private static final String ON = "person on 0;";
    private static final String AWAY = "isles 2 at 50;sea 0 1 oars 3;person on 0;person on 1;";

    private PlansBoundsTest() {
    }

    public static void main(String[] args) {
        soManyMoons();
        toNinetyNine();
        belowAHalfNow();
        oneAtMostInAll();
        behindWhatItSays();
        whileBothLive();
        othersStay();
        leastOarsThenTheLeastRow();
        placesOfAPlan();
        fewestThenTheLeastSet();
        countsOfPlans();
        aWorthAtLeast();
        nowOrBehind();
        earliestBySoFewOars();
        whatStaysAsItIs();
        lovesAndTheDead();
        loveOfNoneSuch();
        Check.finish("PlansBoundsTest");
    }

    private static void keep(MoonPromises x, int person, int n, int oars, int lets, int fallen, long plans) {
        String call = "(" + person + ", " + n + ")";
        Check.due("keeps" + call, x.keeps(person, n), oars);
        Check.due("lets" + call, x.lets(person, n), lets);
        Check.due("fallen" + call, x.fallen(person, n), fallen);
        Check.due("plans" + call, x.plans(person, n), plans);
    }

    private static void row(MoonPromises x, int person, int n, int... isles) {
        for (int i = 0; i < n; i++) {
            Check.due("plan(" + person + ", " + n + ", " + i + ")", x.plan(person, n, i), isles[i]);
        }
    }

    private static void none(MoonPromises x, int person, int n) {
        keep(x, person, n, -2, -2, -2, -2);
        Check.edges("plan(" + person + ", " + n + ", i)", i -> x.plan(person, n, i), -1, -2, 0, -2, n, -2);
    }

    private static void soManyMoons() {
        MoonPromises x = Check.told("isles 1 at 5;" + ON + ON + "promise 0 to 1 worth 9 said 5;");
        for (int n : new int[] {Integer.MIN_VALUE, -1, 0, 13, 14, 100, Integer.MAX_VALUE}) {
            none(x, 0, n);
        }
        keep(x, 0, 1, 0, 0, 0, 1);
        keep(x, 0, 2, 0, 0, 0, 1);
        keep(x, 0, 11, 0, 0, 0, 1);
        keep(x, 0, 12, 0, 0, 0, 1);
        none(x, -1, 1);
        keep(x, 1, 1, 0, 0, 0, 1);
        none(x, 2, 1);
        none(new MoonPromises(), 0, 1);
        none(Check.told("isles 1 at 5;"), 0, 1);
        Check.due("plan(0, 12, 11)", x.plan(0, 12, 11), 0);
        Check.due("plan(0, 12, 12)", x.plan(0, 12, 12), -1);
    }

    private static void toNinetyNine() {
        for (int n = 1; n <= 12; n++) {
            MoonPromises x = Check.told("isles 1 at " + (99 - n) + ";" + ON + ON + "promise 0 to 1 worth 9 said 0;");
            keep(x, 0, n, 0, 0, 0, 1);
            none(x, 0, n + 1);
            Check.due("love to 99", x.love(0, 9, n), 0);
            Check.due("when to 99", x.when(0, 9, n), 99);
            Check.due("love above 99", x.love(0, 9, n + 1), -2);
            Check.due("when above 99", x.when(0, 9, n + 1), -2);
            // From the moon now, not from the one told.
            x.passes();
            none(x, 0, n);
            Check.due("love above 99 from now", x.love(0, 1, n), -2);
            Check.due("love to 99 from now", x.love(0, 1, n - 1), 0);
        }
        MoonPromises last = Check.told("isles 1 at 99;" + ON + ON + "promise 0 to 1 worth 9 said 0;");
        none(last, 0, 1);
        Check.due("love(0, 9, 0) in 99", last.love(0, 9, 0), 0);
        Check.due("love(0, 9, 1) in 99", last.love(0, 9, 1), -2);
    }

    /** Not below a half now: own halvings are one at most; these must be kept. */
    private static void belowAHalfNow() {
        String[] promises = {"said 50;", "said 49;", "said 48;", "said 50 drunk;", "said 49 drunk;", "said 47;"};
        boolean[] asked = {true, true, false, true, false, false};
        for (int i = 0; i < promises.length; i++) {
            // It can't be reached at all: no sea.
            MoonPromises x = Check.told("isles 2 at 50;person on 0;person on 1;promise 0 to 1 worth 9 " + promises[i]);
            keep(x, 0, 2, asked[i] ? -1 : 0, asked[i] ? 1 : 0, asked[i] ? 1 : 0, asked[i] ? 0 : 1);
        }
        // Own halvings: those of what it is on are no matter.
        MoonPromises on = Check.told("isles 2 at 50;person on 0;person on 1;promise 1 to 0 worth 9 said 0;"
            + "promise 0 to 1 worth 9 said 50 on 0;");
        keep(on, 0, 1, 0, 0, 0, 1);
        keep(on, 0, 2, -1, 1, 2, 0);
        // Another one's promises are no matter.
        keep(on, 1, 2, 0, 0, 0, 1);
        // Dead since the moon ahead: one of its own, and one by death.
        MoonPromises dead = Check.told("isles 1 at 50;person on 0 dies 49;" + ON
            + "promise 0 to 1 worth 9 said 50;promise 0 to 1 worth 9 said 49;");
        keep(dead, 0, 1, -1, 1, 1, 0);
    }

    private static void oneAtMostInAll() {
        // On one isle it says all in each moon; away it holds for one moon, drunk or late for none.
        MoonPromises said = Check.told("isles 2 at 50;person on 0;person on 1;promise 0 to 1 worth 9 said 50;");
        keep(said, 0, 1, 0, 0, 0, 1);
        keep(said, 0, 2, -1, 1, 1, 0);
        MoonPromises late = Check.told("isles 2 at 50;person on 0;person on 1;promise 0 to 1 worth 9 said 49;");
        keep(late, 0, 1, -1, 1, 1, 0);
        MoonPromises drunk = Check.told("isles 2 at 50;person on 0;person on 1;promise 0 to 1 worth 9 said 50 drunk;");
        keep(drunk, 0, 1, -1, 1, 1, 0);
        // Said again now, it is fresh; drunk it stays in its first moon.
        MoonPromises x = Check.told("isles 2 at 50;sea 0 1 oars 3;person on 0;person on 0;promise 0 to 1 worth 9 said 49;"
            + "promise 0 to 1 worth 9 said 50 drunk;");
        x.says(0);
        x.says(1);
        x.rows(1, 1);
        keep(x, 0, 1, 3, 0, 0, 1);
        Check.due("shuts is refused", x.shuts(0, 51, 1), -5);
        x.anew();
        x.shuts(0, 51, 1);
        x.says(0);
        x.says(1);
        x.rows(1, 1);
        keep(x, 0, 1, -1, 1, 2, 0);
    }

    private static void behindWhatItSays() {
        // In 51 it comes to it just in time, in 52 just too late.
        MoonPromises late = Check.told(AWAY + "promise 0 to 1 worth 9 said 49;");
        keep(late, 0, 1, 3, 0, 0, 1);
        row(late, 0, 1, 1);
        late.shuts(1, 51, 1);
        keep(late, 0, 1, -1, 1, 1, 0);
        keep(late, 0, 2, -1, 1, 1, 0);
        MoonPromises fresh = Check.told(AWAY + "promise 0 to 1 worth 9 said 50;shut 1 51;");
        keep(fresh, 0, 1, 0, 0, 0, 1);
        keep(fresh, 0, 2, 3, 0, 0, 1);
        row(fresh, 0, 2, 0, 1);
        fresh.shuts(1, 52, 1);
        keep(fresh, 0, 2, -1, 1, 1, 0);
        // Away one moon, back in the next.
        MoonPromises two = Check.told("isles 2 at 50;sea 0 1 oars 3;person on 0;person on 1;person on 0;"
            + "promise 0 to 1 worth 9 said 50;promise 0 to 2 worth 9 said 50;");
        keep(two, 0, 2, 3, 0, 0, 2);
        row(two, 0, 2, 0, 1);
        keep(two, 0, 3, 6, 0, 0, 2);
        row(two, 0, 3, 0, 1, 0);
        keep(two, 0, 12, 33, 0, 0, 2);
    }

    private static void whileBothLive() {
        for (int dies = 50; dies <= 54; dies++) {
            // The other one can't be told again from its death on: it stands one moon more.
            MoonPromises other = Check.told("isles 1 at 50;" + ON + "person on 0 dies " + dies + ";promise 0 to 1 worth 9 said 50;");
            int good = Math.max(1, dies - 50);
            keep(other, 0, good, 0, 0, 0, 1);
            keep(other, 0, good + 1, -1, 1, 1, 0);
            // Who owes it: the moon of death is no halving yet, so it stands one moon more, too.
            MoonPromises own = Check.told("isles 1 at 50;person on 0 dies " + dies + ";" + ON + "promise 0 to 1 worth 9 said 50;");
            int stands = dies - 50;
            if (stands > 0) {
                keep(own, 0, stands, 0, 0, 0, 1);
            }
            keep(own, 0, stands + 1, -1, 1, 1, 0);
        }
        // It rows in the moon ahead of its death, not in that of its death.
        MoonPromises x = Check.told("isles 2 at 50;sea 0 1 oars 3;person on 0 dies 52;person on 1;");
        Check.due("plans(0, 1)", x.plans(0, 1), 2);
        Check.due("plans(0, 2)", x.plans(0, 2), 2);
        Check.due("plans(1, 2)", x.plans(1, 2), 4);
    }

    private static void othersStay() {
        // Where they are now, not where they live; and where it is now.
        MoonPromises x = Check.told("isles 3 at 50;sea 0 1 oars 3;sea 1 2 oars 4;person on 0;person on 1;"
            + "promise 0 to 1 worth 9 said 49;");
        keep(x, 0, 1, 3, 0, 0, 1);
        x.rows(1, 2);
        keep(x, 0, 1, -1, 1, 1, 0);
        x.rows(0, 1);
        keep(x, 0, 1, 4, 0, 0, 1);
        row(x, 0, 1, 2);
    }

    private static void leastOarsThenTheLeastRow() {
        String text = "isles 4 at 50;person on 3;person on 0;person on 0;promise 0 to 1 worth 9 said 50;";
        MoonPromises tied = Check.told(text + "sea 3 1 oars 2;sea 3 2 oars 2;sea 1 0 oars 2;sea 2 0 oars 2;");
        keep(tied, 0, 2, 4, 0, 0, 2);
        row(tied, 0, 2, 1, 0);
        MoonPromises less = Check.told(text + "sea 3 1 oars 2;sea 3 2 oars 2;sea 1 0 oars 2;sea 2 0 oars 1;");
        keep(less, 0, 2, 3, 0, 0, 2);
        row(less, 0, 2, 2, 0);
        MoonPromises more = Check.told(text + "sea 3 1 oars 2;sea 3 2 oars 2;sea 1 0 oars 2;sea 2 0 oars 3;");
        row(more, 0, 2, 1, 0);
        // Of like oars the least row: it goes ahead of staying, if that isle is less.
        MoonPromises ahead = Check.told("isles 2 at 50;sea 0 1 oars 3;person on 1;person on 0;promise 0 to 1 worth 9 said 50;");
        keep(ahead, 0, 2, 3, 0, 0, 3);
        row(ahead, 0, 2, 0, 0);
        MoonPromises behind = Check.told(AWAY + "promise 0 to 1 worth 9 said 50;");
        keep(behind, 0, 2, 3, 0, 0, 3);
        row(behind, 0, 2, 0, 1);
    }

    private static void placesOfAPlan() {
        MoonPromises x = Check.told(AWAY + "promise 0 to 1 worth 9 said 50;");
        for (int n = 1; n <= 12; n++) {
            int moons = n;
            Check.edges("plan(0, " + n + ", i)", i -> x.plan(0, moons, i), Integer.MIN_VALUE, -1, -1, -1, 0, 0, n - 1,
                n == 1 ? 0 : 1, n, -1, n + 1, -1, Integer.MAX_VALUE, -1);
        }
        MoonPromises not = Check.told("isles 2 at 50;person on 0;person on 1;promise 0 to 1 worth 9 said 49;");
        Check.edges("plan(0, 2, i) of no plan", i -> not.plan(0, 2, i), -1, -1, 0, -1, 1, -1, 2, -1);
        Check.edges("plan(0, 0, i)", i -> x.plan(0, 0, i), -1, -2, 0, -2);
        Check.edges("plan(2, 1, i)", i -> x.plan(2, 1, i), -1, -2, 0, -2, 1, -2);
    }

    private static void fewestThenTheLeastSet() {
        // To one isle of three in the next moon: what is not owed there falls.
        String text = "isles 4 at 50;sea 3 0 oars 1;sea 3 1 oars 1;sea 3 2 oars 1;person on 3;person on 0;person on 1;person on 2;";
        String to1 = "promise 0 to 1 worth 9 said 49;";
        String to2 = "promise 0 to 2 worth 9 said 49;";
        String to3 = "promise 0 to 3 worth 9 said 49;";
        keep(Check.told(text), 0, 1, 0, 0, 0, 4);
        keep(Check.told(text + to1), 0, 1, 1, 0, 0, 1);
        keep(Check.told(text + to1 + to2), 0, 1, -1, 1, 1, 0);
        keep(Check.told(text + to1 + to2 + to2), 0, 1, -1, 1, 1, 0);
        keep(Check.told(text + to1 + to1 + to2), 0, 1, -1, 1, 4, 0);
        keep(Check.told(text + to1 + to2 + to3), 0, 1, -1, 2, 3, 0);
        keep(Check.told(text + to3 + to1 + to2), 0, 1, -1, 2, 3, 0);
        keep(Check.told(text + to1 + to2 + to1 + to2), 0, 1, -1, 2, 5, 0);
        keep(Check.told(text + to2 + to2 + to1 + to1), 0, 1, -1, 2, 3, 0);
        keep(Check.told(text + to1.repeat(4) + to2.repeat(3) + to3.repeat(3)), 0, 1, -1, 6, 1023 - 15, 0);
        // All ten fall, where none can be kept; below a half they don't fall.
        String far = "isles 2 at 50;person on 0;person on 1;";
        keep(Check.told(far + "promise 0 to 1 worth 9 said 49;".repeat(10)), 0, 1, -1, 10, 1023, 0);
        keep(Check.told(far + "promise 0 to 1 worth 9 said 48;promise 0 to 1 worth 9 said 49;".repeat(5)), 0, 1, -1, 5, 682, 0);
        keep(Check.told(far + "promise 0 to 1 worth 9 said 48;".repeat(10)), 0, 1, 0, 0, 0, 1);
    }

    private static void countsOfPlans() {
        StringBuilder text = new StringBuilder("isles 6 at 5;" + ON);
        for (int a = 0; a < 6; a++) {
            for (int b = 0; b < a; b++) {
                text.append("sea ").append(a).append(' ').append(b).append(" oars 20;");
            }
        }
        MoonPromises x = Check.told(text.toString());
        long all = 1;
        for (int n = 1; n <= 12; n++) {
            all *= 6;
            Check.due("plans(0, " + n + ")", x.plans(0, n), all);
        }
        MoonPromises far = Check.told(text + "person on 5;promise 0 to 1 worth 9 said 4;");
        Check.due("plans(0, 1)", far.plans(0, 1), 1);
        Check.due("plans(0, 2)", far.plans(0, 2), 6);
        Check.due("keeps(0, 12)", far.keeps(0, 12), 20);
        // The dearest: to and fro between two who are told in turn.
        MoonPromises fro = Check.told(text + "person on 5;promise 0 to 1 worth 9 said 4;person on 4;promise 0 to 2 worth 9 said 5;");
        Check.due("keeps(0, 12) to and fro", fro.keeps(0, 12), 240);
        Check.due("plans(0, 12) to and fro", fro.plans(0, 12), 1);
    }

    private static void love(MoonPromises x, int promise, int v, int n, int oars, int moon) {
        String call = "(" + promise + ", " + v + ", " + n + ")";
        Check.due("love" + call, x.love(promise, v, n), oars);
        Check.due("when" + call, x.when(promise, v, n), moon);
    }

    private static void aWorthAtLeast() {
        MoonPromises x = Check.told("isles 1 at 50;" + ON + ON + "promise 0 to 1 worth 1000000 said 49;promise 0 to 1 worth 9 said 48;");
        for (int v : new int[] {Integer.MIN_VALUE, -1, 0}) {
            love(x, 0, v, 0, -2, -2);
        }
        love(x, 0, 1, 0, 0, 50);
        love(x, 0, 499999, 0, 0, 50);
        love(x, 0, 500000, 0, 0, 50);
        love(x, 0, 500001, 0, 0, 50);
        love(x, 0, 1000000, 0, 0, 50);
        love(x, 0, 1000001, 0, -1, -1);
        love(x, 0, Integer.MAX_VALUE, 0, -1, -1);
        // Not said it is worth 5 two moons on, of nine: 2, said now 3, in the next moon 5.
        love(x, 1, 1, 2, 0, 50);
        love(x, 1, 2, 2, 0, 50);
        love(x, 1, 3, 2, 0, 50);
        love(x, 1, 4, 2, 0, 51);
        love(x, 1, 5, 2, 0, 51);
        love(x, 1, 6, 2, 0, 52);
        love(x, 1, 9, 2, 0, 52);
        love(x, 1, 10, 2, -1, -1);
    }

    private static void nowOrBehind() {
        MoonPromises here = Check.told("isles 2 at 50;sea 0 1 oars 3;" + ON + ON + "promise 0 to 1 worth 8 said 40;");
        for (int n : new int[] {Integer.MIN_VALUE, -1, 13, 14, Integer.MAX_VALUE}) {
            love(here, 0, 1, n, -2, -2);
        }
        love(here, 0, 8, 0, 0, 50);
        love(here, 0, 8, 1, 0, 51);
        love(here, 0, 4, 1, 0, 50);
        love(here, 0, 8, 11, 0, 61);
        love(here, 0, 8, 12, 0, 62);
        love(here, 0, 1, 12, 0, 50);
        // It rows from the next moon on, not in the moon now.
        MoonPromises away = Check.told(AWAY + "promise 0 to 1 worth 8 said 40;");
        love(away, 0, 1, 0, 0, 50);
        love(away, 0, 2, 0, -1, -1);
        love(away, 0, 2, 1, 3, 51);
        love(away, 0, 8, 1, 3, 51);
        love(away, 0, 8, 12, 3, 62);
        // It rowed in the moon now: it may row in the next one.
        MoonPromises rowed = Check.told("isles 2 at 50;sea 0 1 oars 3;person on 1;person on 1;promise 0 to 1 worth 8 said 40;");
        rowed.rows(0, 0);
        love(rowed, 0, 8, 0, -1, -1);
        love(rowed, 0, 8, 1, 3, 51);
        // So many moons at most: three legs take three.
        MoonPromises far = Check.told("isles 4 at 50;sea 0 1 oars 1;sea 1 2 oars 1;sea 2 3 oars 1;person on 0;person on 3;"
            + "promise 0 to 1 worth 64 said 40;");
        love(far, 0, 2, 2, -1, -1);
        love(far, 0, 64, 3, 3, 53);
        love(far, 0, 32, 4, 3, 53);
        love(far, 0, 33, 4, 3, 54);
    }

    private static void earliestBySoFewOars() {
        // Dear and soon, or cheap and late: the least oars come first, then the earliest moon.
        MoonPromises x = Check.told("isles 3 at 50;sea 0 2 oars 9;sea 0 1 oars 4;sea 1 2 oars 4;person on 0;person on 2;"
            + "promise 0 to 1 worth 64 said 40;");
        love(x, 0, 64, 1, 9, 51);
        love(x, 0, 64, 2, 8, 52);
        love(x, 0, 32, 2, 8, 52);
        love(x, 0, 16, 3, 8, 52);
        love(x, 0, 33, 3, 8, 53);
        MoonPromises tied = Check.told("isles 3 at 50;sea 0 2 oars 8;sea 0 1 oars 4;sea 1 2 oars 4;person on 0;person on 2;"
            + "promise 0 to 1 worth 64 said 40;");
        love(tied, 0, 32, 2, 8, 51);
        love(tied, 0, 33, 2, 8, 52);
        // The moon now, if it need not be said: far away as it is, and just not.
        MoonPromises stands = Check.told(AWAY + "promise 0 to 1 worth 64 said 49;");
        love(stands, 0, 16, 1, 0, 50);
        love(stands, 0, 17, 1, 3, 51);
        love(stands, 0, 15, 1, 0, 50);
    }

    private static void whatStaysAsItIs() {
        // Its root and all between as they are: 2 halvings now, 3 more in the next moon with its own.
        MoonPromises x = Check.told("isles 1 at 50;" + ON + ON + "promise 1 to 0 worth 8 said 49;"
            + "promise 1 to 0 worth 8 said 49 on 0;promise 0 to 1 worth 64 said 49 on 1;");
        love(x, 2, 8, 0, 0, 50);
        love(x, 2, 16, 0, 0, 50);
        love(x, 2, 17, 0, -1, -1);
        love(x, 2, 1, 1, 0, 50);
        love(x, 2, 2, 1, 0, 50);
        love(x, 2, 3, 1, 0, 51);
        love(x, 2, 4, 1, 0, 51);
        love(x, 2, 5, 1, -1, -1);
        // What is on it is no matter, and it is said by who owes it alone.
        love(x, 0, 8, 1, 0, 51);
        Check.due("says(0)", x.says(0), 8);
        love(x, 2, 32, 0, 0, 50);
        love(x, 2, 33, 0, -1, -1);
        Check.due("worth(2, 50): nothing was said", x.worth(2, 50), 16);
    }

    private static void lovesAndTheDead() {
        for (int dies = 50; dies <= 54; dies++) {
            // Said in the moon ahead of either death at the latest.
            MoonPromises own = Check.told("isles 1 at 50;person on 0 dies " + dies + ";" + ON + "promise 0 to 1 worth 64 said 40;");
            MoonPromises other = Check.told("isles 1 at 50;" + ON + "person on 0 dies " + dies + ";promise 0 to 1 worth 64 said 40;");
            int last = Math.min(52, dies - 1);
            int ownWorth = 64 >> 52 - last + Math.max(0, 52 - dies);
            int worth = 64 >> 52 - last;
            love(own, 0, dies > 50 ? ownWorth : 2, 2, dies > 50 ? 0 : -1, dies > 50 ? last : -1);
            love(own, 0, ownWorth + 1, 2, -1, -1);
            love(other, 0, dies > 50 ? worth : 2, 2, dies > 50 ? 0 : -1, dies > 50 ? last : -1);
            love(other, 0, worth + 1, 2, -1, -1);
        }
    }

    private static void loveOfNoneSuch() {
        MoonPromises x = Check.told("isles 1 at 50;" + ON + ON + "promise 0 to 1 worth 8 said 50;promise 0 to 1 worth 8 said 50;");
        love(x, -1, 1, 1, -2, -2);
        love(x, 0, 1, 1, 0, 50);
        love(x, 1, 1, 1, 0, 50);
        love(x, 2, 1, 1, -2, -2);
        love(x, 10, 1, 1, -2, -2);
        love(new MoonPromises(), 0, 1, 0, -2, -2);
        love(Check.told("isles 1 at 0;"), 0, 1, 0, -2, -2);
    }
}
