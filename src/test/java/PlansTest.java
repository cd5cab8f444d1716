/** Promises 30 to 36: plans by which none falls below a half, and loves. */
public final class PlansTest {
    /** Person 0 between person 1 (three oars away) and person 2 (four oars the other way). */
    private static final String TEXT = "isles 3 at 5;sea 0 1 oars 3;sea 0 2 oars 4;sea 1 2 oars 9;"
        + "person on 0;person on 1;person on 2;person on 0;";

    private PlansTest() {
    }

    public static void main(String[] args) {
        oneToKeep();
        twoToKeep();
        oneThatCantBeKept();
        deathsAndHarbours();
        manyPlans();
        loves();
        wrongOnes();
        Check.finish("PlansTest");
    }

    private static void keep(MoonPromises x, int person, int n, int oars, int lets, int fallen, long plans) {
        Check.due("keeps(" + person + ", " + n + ")", x.keeps(person, n), oars);
        Check.due("lets(" + person + ", " + n + ")", x.lets(person, n), lets);
        Check.due("fallen(" + person + ", " + n + ")", x.fallen(person, n), fallen);
        Check.due("plans(" + person + ", " + n + ")", x.plans(person, n), plans);
    }

    private static void planIs(MoonPromises x, int person, int... row) {
        for (int i = 0; i < row.length; i++) {
            Check.due("plan(" + person + ", " + row.length + ", " + i + ")", x.plan(person, row.length, i), row[i]);
        }
        Check.due("plan behind its row", x.plan(person, row.length, row.length), -1);
        Check.due("plan before its row", x.plan(person, row.length, -1), -1);
    }

    private static void oneToKeep() {
        MoonPromises x = Check.told(TEXT + "promise 0 to 1 worth 100 said 5;");
        keep(x, 0, 1, 0, 0, 0, 3);
        planIs(x, 0, 0);
        // In one of two moons it must be there: 01, 11, 10, 12, 21.
        keep(x, 0, 2, 3, 0, 0, 5);
        planIs(x, 0, 0, 1);
        // Never away twice running: five rows that begin with 1, three each with 0 1 and 2 1.
        keep(x, 0, 3, 3, 0, 0, 11);
        planIs(x, 0, 0, 1, 1);
        keep(x, 1, 3, 0, 0, 0, 27);
        MoonPromises y = Check.told(TEXT + "promise 0 to 1 worth 100 said 4;");
        keep(y, 0, 1, 3, 0, 0, 1);
        planIs(y, 0, 1);
        MoonPromises z = Check.told(TEXT + "promise 0 to 1 worth 100 said 3;promise 0 to 1 worth 1 said 4 drunk;");
        keep(z, 0, 2, 0, 0, 0, 9);
        planIs(z, 0, 0, 0);
    }

    private static void twoToKeep() {
        MoonPromises x = Check.told(TEXT + "promise 0 to 1 worth 100 said 5;promise 0 to 2 worth 100 said 5;");
        // 1 2 by nine oars, the other way round by nine and four.
        keep(x, 0, 2, 3 + 9, 0, 0, 2);
        planIs(x, 0, 1, 2);
        keep(x, 0, 3, 3 + 9 + 9, 0, 0, 2);
        planIs(x, 0, 1, 2, 1);
        MoonPromises y = Check.told("isles 3 at 5;sea 0 1 oars 4;sea 0 2 oars 4;sea 1 2 oars 4;person on 0;"
            + "person on 1;person on 2;promise 0 to 2 worth 9 said 5;promise 0 to 1 worth 9 said 5;");
        keep(y, 0, 2, 8, 0, 0, 2);
        planIs(y, 0, 1, 2);
    }

    private static void oneThatCantBeKept() {
        MoonPromises x = Check.told(TEXT + "promise 0 to 1 worth 100 said 4;promise 0 to 2 worth 100 said 4;"
            + "promise 0 to 2 worth 100 said 4;promise 0 to 3 worth 100 said 4;promise 0 to 1 worth 100 said 2;");
        // In the next moon one isle only: 0 keeps 3, 1 keeps 0, 2 keeps 1 and 2.
        keep(x, 0, 1, -1, 2, 1 + 8, 0);
        planIs(x, 0, -1);
        MoonPromises y = Check.told(TEXT + "promise 0 to 1 worth 100 said 4;promise 0 to 2 worth 100 said 4;");
        keep(y, 0, 1, -1, 1, 1, 0);
        MoonPromises z = Check.told("isles 2 at 5;person on 0;person on 1;promise 0 to 1 worth 7 said 5;");
        keep(z, 0, 1, 0, 0, 0, 1);
        keep(z, 0, 2, -1, 1, 1, 0);
    }

    private static void deathsAndHarbours() {
        // Who owes it dies in moon 7: said in 6, it stands at one halving in 7, but not in 8.
        MoonPromises x = Check.told("isles 1 at 5;person on 0 dies 7;person on 0;promise 0 to 1 worth 8 said 5;");
        keep(x, 0, 2, 0, 0, 0, 1);
        keep(x, 0, 3, -1, 1, 1, 0);
        keep(x, 1, 3, 0, 0, 0, 1);
        // Who is owed dies in moon 6: not said again.
        MoonPromises y = Check.told("isles 1 at 5;person on 0;person on 0 dies 6;promise 0 to 1 worth 8 said 5;");
        keep(y, 0, 1, 0, 0, 0, 1);
        keep(y, 0, 2, -1, 1, 1, 0);
        // A harbour is shut in moon 6: rows in 7.
        MoonPromises z = Check.told("isles 2 at 5;sea 0 1 oars 2;person on 0;person on 1;"
            + "promise 0 to 1 worth 8 said 5;shut 1 6;");
        keep(z, 0, 2, 2, 0, 0, 1);
        planIs(z, 0, 0, 1);
        Check.due("shuts(0, 7, 1)", z.shuts(0, 7, 1), 0);
        keep(z, 0, 2, -1, 1, 1, 0);
        // It rowed in the moon now: it rows in the next one all the same.
        z.shuts(0, 7, 0);
        z.shuts(1, 6, 0);
        z.rows(0, 1);
        keep(z, 0, 1, 0, 0, 0, 2);
        // Who is dead stays where it is.
        MoonPromises dead = Check.told("isles 2 at 5;sea 0 1 oars 2;person on 1 dies 3;person on 0;");
        keep(dead, 0, 3, 0, 0, 0, 1);
        planIs(dead, 0, 1, 1, 1);
    }

    private static void manyPlans() {
        StringBuilder text = new StringBuilder("isles 6 at 87;person on 3;");
        for (int a = 0; a < 6; a++) {
            for (int b = a + 1; b < 6; b++) {
                text.append("sea ").append(a).append(" ").append(b).append(" oars 1;");
            }
        }
        MoonPromises x = Check.told(text.toString());
        Check.due("plans(0, 12) of all", x.plans(0, 12), 2176782336L);
        Check.due("keeps(0, 12) of all", x.keeps(0, 12), 0);
        Check.due("plan(0, 12, 11) of all", x.plan(0, 12, 11), 3);
        Check.tell(x, text + "person on 5;promise 0 to 1 worth 9 said 86;promise 0 to 1 worth 9 said 80;");
        Check.due("keeps(0, 12) of all", x.keeps(0, 12), 1);
        Check.due("plan(0, 12, 11) of all", x.plan(0, 12, 11), 5);
        Check.due("lets(0, 12) of all", x.lets(0, 12), 0);
        Check.due("fallen(0, 12) of all", x.fallen(0, 12), 0);
        loveIs(x, 1, 9, 12, 1, 99);
        loveIs(x, 1, 5, 12, 1, 98);
        x.passes();
        Check.due("plans(0, 12) beyond 99", x.plans(0, 12), -2);
        Check.due("plans(0, 11) to 99", x.plans(0, 11), 362797056L);
    }

    private static void loveIs(MoonPromises x, int promise, int v, int n, int oars, int moon) {
        Check.due("love(" + promise + ", " + v + ", " + n + ")", x.love(promise, v, n), oars);
        Check.due("when(" + promise + ", " + v + ", " + n + ")", x.when(promise, v, n), moon);
    }

    private static void loves() {
        MoonPromises x = Check.told(TEXT + "promise 0 to 1 worth 100 said 4;promise 0 to 3 worth 64 said 1;"
            + "promise 3 to 0 worth 64 said 5 on 1;promise 3 to 0 worth 7 said 5 drunk;");
        loveIs(x, 0, 50, 0, 0, 5);
        loveIs(x, 0, 51, 0, -1, -1);
        loveIs(x, 0, 25, 1, 0, 5);
        loveIs(x, 0, 26, 1, 3, 6);
        loveIs(x, 0, 100, 1, 3, 6);
        loveIs(x, 0, 101, 1, -1, -1);
        loveIs(x, 0, 50, 3, 3, 7);
        loveIs(x, 0, 25, 3, 3, 6);
        loveIs(x, 0, 8, 3, 3, 6);
        loveIs(x, 0, 7, 3, 0, 5);
        // On one isle: now, if that is enough, or in the first moon that is.
        loveIs(x, 1, 64, 0, 0, 5);
        loveIs(x, 1, 5, 0, 0, 5);
        loveIs(x, 1, 32, 1, 0, 5);
        loveIs(x, 1, 33, 1, 0, 6);
        loveIs(x, 1, 33, 3, 0, 8);
        // Its root stays as it is: four halvings now.
        loveIs(x, 2, 4, 0, 0, 5);
        loveIs(x, 2, 5, 0, -1, -1);
        loveIs(x, 2, 1, 1, 0, 5);
        loveIs(x, 2, 2, 1, 0, 6);
        loveIs(x, 2, 3, 1, -1, -1);
        loveIs(x, 2, 1, 12, 0, 5);
        // Drunk in its first moon it stays so, said again in that.
        loveIs(x, 3, 4, 0, 0, 5);
        loveIs(x, 3, 5, 0, -1, -1);
        loveIs(x, 3, 5, 1, 0, 6);
        MoonPromises y = Check.told("isles 2 at 5;sea 0 1 oars 2;person on 0 dies 7;person on 1;"
            + "promise 0 to 1 worth 100 said 0;shut 0 6;promise 1 to 0 worth 100 said 0;");
        loveIs(y, 0, 50, 2, -1, -1);
        loveIs(y, 0, 3, 1, -1, -1);
        loveIs(y, 1, 50, 1, -1, -1);
        y.shuts(0, 6, 0);
        loveIs(y, 0, 100, 1, 2, 6);
        loveIs(y, 0, 50, 2, 2, 6);
        loveIs(y, 0, 51, 2, -1, -1);
        loveIs(y, 0, 13, 3, 2, 6);
        loveIs(y, 0, 26, 3, -1, -1);
        loveIs(y, 1, 50, 2, 2, 6);
        loveIs(y, 1, 51, 2, -1, -1);
    }

    private static void wrongOnes() {
        MoonPromises x = Check.told(TEXT + "promise 0 to 1 worth 100 said 4;");
        int[][] wrong = {{-1, 1}, {4, 1}, {0, 0}, {0, 13}, {0, -1}, {0, Integer.MIN_VALUE}, {0, Integer.MAX_VALUE}};
        for (int[] w : wrong) {
            Check.due("keeps wrong", x.keeps(w[0], w[1]), -2);
            Check.due("plan wrong", x.plan(w[0], w[1], 0), -2);
            Check.due("lets wrong", x.lets(w[0], w[1]), -2);
            Check.due("fallen wrong", x.fallen(w[0], w[1]), -2);
            Check.due("plans wrong", x.plans(w[0], w[1]), -2);
        }
        int[][] loves = {{-1, 1, 1}, {1, 1, 1}, {0, 0, 1}, {0, 1, -1}, {0, 1, 13}};
        for (int[] w : loves) {
            Check.due("love wrong", x.love(w[0], w[1], w[2]), -2);
            Check.due("when wrong", x.when(w[0], w[1], w[2]), -2);
        }
        MoonPromises late = Check.told("isles 1 at 98;person on 0;person on 0;promise 0 to 1 worth 8 said 98;");
        Check.due("keeps(0, 1) to 99", late.keeps(0, 1), 0);
        Check.due("keeps(0, 2) above 99", late.keeps(0, 2), -2);
        Check.due("love(0, 1, 1) to 99", late.love(0, 1, 1), 0);
        Check.due("love(0, 1, 2) above 99", late.love(0, 1, 2), -2);
        Check.due("when(0, 1, 2) above 99", late.when(0, 1, 2), -2);
    }
}
