/** Bounds of term V and promises 37 to 41: each just below, at and just above. */
public final class DebtsBoundsTest {
    private static final String ON = "person on 0;";

    private DebtsBoundsTest() {
    }

    public static void main(String[] args) {
        halvingsOfJoins();
        likeHalvings();
        theSameTwo();
        uponOthers();
        howMuchMore();
        thePairOfMost();
        joinsOfNow();
        leastOfARing();
        theFirstRing();
        placesOfARing();
        moonsOfARing();
        strikesOfThree();
        Check.finish("DebtsBoundsTest");
    }

    private static MoonPromises two(int now, String rest) {
        return Check.told("isles 1 at " + now + ";" + ON + ON + rest);
    }

    private static void halvingsOfJoins() {
        for (int often = 0; often <= 22; often++) {
            MoonPromises x = two(40, ("promise 0 to 1 worth 9 said " + (40 - often) + ";").repeat(2));
            boolean can = often >= 1 && often <= 20;
            int each = Model.halved(9, often);
            int more = Model.halved(18, often - 1) - 2 * each;
            Check.due("joins(0, 1) of " + often, x.joins(0, 1), can ? more : -5);
            Check.due("joined() of " + often, x.joined(), can ? 1 : -1);
        }
        // Drink and death are halvings, too.
        MoonPromises drunk = two(40, "promise 0 to 1 worth 9 said 40 drunk;".repeat(2));
        Check.due("joins(0, 1): drunk in the moon now", drunk.joins(0, 1), 18 - 5 - 5);
        MoonPromises twenty = two(40, "promise 0 to 1 worth 9 said 20 drunk;".repeat(2));
        Check.due("joins(0, 1): 20, and one by drink", twenty.joins(0, 1), -5);
        MoonPromises dead = Check.told("isles 1 at 40;person on 0 dies 30;" + ON + "promise 0 to 1 worth 9 said 30;".repeat(2));
        Check.due("joins(0, 1): 20, ten by death", dead.joins(0, 1), -1);
        dead.passes();
        Check.due("joins(0, 1): 22, eleven by death", dead.joins(0, 1), -5);
    }

    private static void likeHalvings() {
        MoonPromises x = two(40, "promise 0 to 1 worth 9 said 37;promise 0 to 1 worth 9 said 38;promise 0 to 1 worth 9 said 38 drunk;"
            + "promise 0 to 1 worth 9 said 36;");
        Check.edges("joins(0, q)", q -> x.joins(0, q), -1, -2, 0, -2, 1, -5, 2, 5 - 2 - 2, 3, -5, 4, -2);
        Check.edges("joins(q, 0)", q -> x.joins(q, 0), -1, -2, 0, -2, 1, -5, 2, 5 - 2 - 2, 3, -5, 4, -2);
        Check.due("joined()", x.joined(), 2);
    }

    private static void theSameTwo() {
        MoonPromises x = Check.told("isles 1 at 5;" + ON + ON + ON + "promise 0 to 1 worth 9 said 4;promise 1 to 0 worth 9 said 4;"
            + "promise 0 to 2 worth 9 said 4;promise 2 to 1 worth 9 said 4;promise 2 to 0 worth 9 said 4;");
        Check.edges("joins(0, q)", q -> x.joins(0, q), 1, -5, 2, -5, 3, -5, 4, -5);
        Check.due("joined()", x.joined(), -1);
        Check.due("promises(0, 1, 9)", x.promises(0, 1, 9), 5);
        Check.due("joins(0, 5): not of like halvings", x.joins(0, 5), -5);
    }

    private static void uponOthers() {
        String four = "promise 0 to 1 worth 9 said 4;".repeat(4);
        MoonPromises none = two(5, four + "promise 0 to 1 worth 9 said 4;");
        Check.due("joins(1, 3)", none.joins(1, 3), 8);
        Check.due("joined()", none.joined(), 1);
        MoonPromises below = two(5, four + "promise 1 to 0 worth 9 said 4 on 1;");
        Check.due("joins(1, 3): one on the first", below.joins(1, 3), -5);
        Check.due("joins(3, 1): one on the second", below.joins(3, 1), -5);
        Check.due("joins(0, 2): none on them", below.joins(0, 2), 8);
        Check.due("joined()", below.joined(), 2);
        MoonPromises above = two(5, four + "promise 0 to 1 worth 9 said 5 on 2;");
        Check.due("joins(0, 4): the second on another", above.joins(0, 4), -5);
        Check.due("joins(4, 0): the first on another", above.joins(4, 0), -5);
        // Of like halvings as it is: one, by what it is on.
        Check.due("halvings(4, 5)", above.halvings(4, 5), 1);
        Check.due("joined()", above.joined(), 1);
        MoonPromises both = two(5, "promise 0 to 1 worth 9 said 4;promise 0 to 1 worth 9 said 5 on 0;");
        Check.due("joins(0, 1): one on the other", both.joins(0, 1), -5);
        Check.due("joined() of none", both.joined(), -1);
    }

    private static void howMuchMore() {
        int[][] due = {
            {1, 1, 1, 0}, {1, 1, 2, -1}, {1, 1, 20, -1}, {1, 2, 2, 0}, {2, 2, 2, 0}, {3, 3, 1, 2}, {2, 3, 1, 2}, {3, 4, 2, 2},
            {1000000, 1000000, 1, 1000000}, {1000000, 1, 1, 500000}, {1000000, 1000000, 20, 2}, {524288, 524288, 20, 0},
            {524288, 524289, 20, 1}, {1000000, 999999, 2, 500000},
        };
        for (int[] d : due) {
            MoonPromises x = two(30, "promise 0 to 1 worth " + d[0] + " said " + (30 - d[2]) + ";"
                + "promise 0 to 1 worth " + d[1] + " said " + (30 - d[2]) + ";");
            Check.due("joins of " + d[0] + " and " + d[1] + " halved " + d[2], x.joins(0, 1), d[3]);
            Check.due("joins the other way round", x.joins(1, 0), d[3]);
            Check.due("joined(), of whatever it is", x.joined(), 1);
            Check.due("worth(0, 30): nothing is joined", x.worth(0, 30), Model.halved(d[0], d[2]));
        }
    }

    private static void thePairOfMost() {
        MoonPromises x = two(5, "promise 0 to 1 worth 8 said 4;promise 1 to 0 worth 9 said 4;promise 0 to 1 worth 8 said 4;"
            + "promise 1 to 0 worth 9 said 4;promise 0 to 1 worth 8 said 3;promise 0 to 1 worth 8 said 4;");
        Check.due("joins(0, 2)", x.joins(0, 2), 8);
        Check.due("joins(1, 3)", x.joins(1, 3), 8);
        Check.due("joined(): the first of several", x.joined(), 2);
        MoonPromises more = two(5, "promise 0 to 1 worth 8 said 4;promise 1 to 0 worth 10 said 4;promise 0 to 1 worth 8 said 4;"
            + "promise 1 to 0 worth 9 said 4;");
        Check.due("joined(): one more", more.joined(), 13);
        MoonPromises last = two(5, "promise 0 to 1 worth 8 said 5;".repeat(8) + "promise 0 to 1 worth 8 said 4;".repeat(2));
        Check.due("joined(): the last two", last.joined(), 89);
        MoonPromises first = two(5, "promise 0 to 1 worth 8 said 4;".repeat(10));
        Check.due("joined(): the first two", first.joined(), 1);
        Check.due("joined() of one", two(5, "promise 0 to 1 worth 8 said 4;").joined(), -1);
        Check.due("joined() of none", two(5, "").joined(), -1);
        Check.due("joined() of bare isles", Check.told("isles 1 at 5;").joined(), -1);
        Check.due("joined() without isles", new MoonPromises().joined(), -2);
        Check.due("joins(0, 1) without isles", new MoonPromises().joins(0, 1), -2);
    }

    private static void joinsOfNow() {
        MoonPromises x = two(5, "promise 0 to 1 worth 8 said 5;promise 0 to 1 worth 8 said 4;");
        Check.due("joins(0, 1)", x.joins(0, 1), -5);
        x.says(1);
        Check.due("joins(0, 1): both fresh", x.joins(0, 1), -5);
        x.passes();
        Check.due("joins(0, 1): both a half", x.joins(0, 1), 8);
        Check.due("joined()", x.joined(), 1);
        x.says(0);
        Check.due("joins(0, 1): one fresh again", x.joins(0, 1), -5);
    }

    private static MoonPromises ringOf(int one, int two, int three) {
        return Check.told("isles 1 at 5;" + ON + ON + ON + "promise 0 to 1 worth " + one + " said 5;promise 1 to 2 worth " + two
            + " said 5;promise 2 to 0 worth " + three + " said 5;");
    }

    private static void leastOfARing() {
        int[][] worths = {{7, 8, 9}, {8, 7, 9}, {9, 8, 7}, {7, 7, 7}, {7, 7, 8}, {7, 1000000, 8}};
        for (int[] w : worths) {
            MoonPromises x = ringOf(w[0], w[1], w[2]);
            Check.due("ring(5)", x.ring(5), 7);
            Check.due("strikes(0, 1, 2, 5)", x.strikes(0, 1, 2, 5), 7);
            Check.due("strikes(1, 2, 0, 5)", x.strikes(1, 2, 0, 5), 7);
            Check.due("strikes(2, 0, 1, 5)", x.strikes(2, 0, 1, 5), 7);
            Check.due("strikes(0, 2, 1, 5): the other way round", x.strikes(0, 2, 1, 5), 0);
        }
        // Worths of more promises are together; one that fails breaks the ring.
        MoonPromises more = ringOf(7, 8, 3);
        more.promises(2, 0, 5);
        Check.due("ring(5) of two together", more.ring(5), 7);
        MoonPromises open = Check.told("isles 1 at 5;" + ON + ON + ON + "promise 0 to 1 worth 9 said 5;promise 1 to 2 worth 9 said 5;");
        Check.due("ring(5) of two", open.ring(5), 0);
        Check.due("ringed(5, 0) of two", open.ringed(5, 0), -1);
        open.promises(2, 0, 1);
        Check.due("ring(5) of three", open.ring(5), 1);
        Check.due("ringed(5, 0) of three", open.ringed(5, 0), 0);
    }

    private static void rowIs(MoonPromises x, int moon, int a, int b, int c) {
        Check.edges("ringed(" + moon + ", i)", i -> x.ringed(moon, i), -1, -1, 0, a, 1, b, 2, c, 3, -1);
    }

    private static void theFirstRing() {
        String six = "isles 1 at 5;" + ON.repeat(6);
        String back = "promise 0 to 2 worth 9 said 5;promise 2 to 1 worth 9 said 5;promise 1 to 0 worth 9 said 5;";
        String forth = "promise 0 to 1 worth 9 said 5;promise 1 to 2 worth 9 said 5;promise 2 to 0 worth 9 said 5;";
        rowIs(Check.told(six + back), 5, 0, 2, 1);
        rowIs(Check.told(six + back + forth), 5, 0, 1, 2);
        MoonPromises last = Check.told(six + "promise 5 to 4 worth 9 said 5;promise 4 to 3 worth 9 said 5;promise 3 to 5 worth 9 said 5;");
        rowIs(last, 5, 3, 5, 4);
        // More comes first, then the least row.
        MoonPromises more = Check.told(six + forth + "promise 3 to 4 worth 10 said 5;promise 4 to 5 worth 10 said 5;"
            + "promise 5 to 3 worth 10 said 5;");
        Check.due("ring(5): more", more.ring(5), 10);
        rowIs(more, 5, 3, 4, 5);
        MoonPromises like = Check.told(six + "promise 3 to 4 worth 9 said 5;promise 4 to 5 worth 9 said 5;promise 5 to 3 worth 9 said 5;" + forth);
        Check.due("ring(5): alike", like.ring(5), 9);
        rowIs(like, 5, 0, 1, 2);
    }

    private static void placesOfARing() {
        MoonPromises x = ringOf(7, 8, 9);
        Check.edges("ringed(5, i)", i -> x.ringed(5, i), Integer.MIN_VALUE, -1, -1, -1, 0, 0, 1, 1, 2, 2, 3, -1, Integer.MAX_VALUE, -1);
        Check.edges("ringed(4, i)", i -> x.ringed(4, i), -1, -1, 0, -1, 2, -1, 3, -1);
        Check.edges("ringed(100, i)", i -> x.ringed(100, i), -1, -2, 0, -2, 3, -2);
        Check.edges("ringed(-1, i)", i -> x.ringed(-1, i), -1, -2, 0, -2, 3, -2);
        for (int people = 0; people <= 2; people++) {
            MoonPromises few = Check.told("isles 1 at 5;" + ON.repeat(people));
            Check.due("ring(5) of " + people, few.ring(5), 0);
            Check.due("ringed(5, 0) of " + people, few.ringed(5, 0), -1);
        }
    }

    private static void moonsOfARing() {
        MoonPromises x = ringOf(7, 8, 9);
        Check.edges("ring(m)", m -> x.ring(m), -1, -2, 0, 0, 4, 0, 5, 7, 6, 4, 7, 2, 8, 1, 99, 1, 100, -2);
        Check.edges("ringed(m, 2)", m -> x.ringed(m, 2), -1, -2, 0, -1, 4, -1, 5, 2, 99, 2, 100, -2);
        Check.edges("strikes(0, 1, 2, m)", m -> x.strikes(0, 1, 2, m), -1, -2, 0, 0, 4, 0, 5, 7, 6, 4, 99, 1, 100, -2);
        MoonPromises none = new MoonPromises();
        Check.edges("ring(m) without isles", m -> none.ring(m), -1, -2, 0, -2, 99, -2, 100, -2);
        Check.edges("ringed(m, 0) without isles", m -> none.ringed(m, 0), -1, -2, 0, -2, 99, -2, 100, -2);
        Check.edges("ringed(0, i) without isles", i -> none.ringed(0, i), -1, -2, 0, -2, 3, -2);
        Check.due("strikes(0, 1, 2, 0) without isles", none.strikes(0, 1, 2, 0), -2);
    }

    private static void strikesOfThree() {
        MoonPromises x = ringOf(7, 8, 9);
        Check.edges("strikes(p, 1, 2, 5)", p -> x.strikes(p, 1, 2, 5), -1, -2, 0, 7, 1, -2, 2, -2, 3, -2);
        Check.edges("strikes(0, p, 2, 5)", p -> x.strikes(0, p, 2, 5), -1, -2, 0, -2, 1, 7, 2, -2, 3, -2);
        Check.edges("strikes(0, 1, p, 5)", p -> x.strikes(0, 1, p, 5), -1, -2, 0, -2, 1, -2, 2, 7, 3, -2);
        Check.due("strikes(1, 1, 1, 5)", x.strikes(1, 1, 1, 5), -2);
        MoonPromises two = Check.told("isles 1 at 5;" + ON + ON);
        Check.due("strikes(0, 1, 2, 5) of two", two.strikes(0, 1, 2, 5), -2);
    }
}
