/** Promises 37 to 41: halves that are joined, rings that are struck out. */
public final class DebtsTest {
    private static final String TWO = "isles 1 at 5;person on 0;person on 0;person on 0;";

    private DebtsTest() {
    }

    public static void main(String[] args) {
        joining();
        whatCantBeJoined();
        rings();
        Check.finish("DebtsTest");
    }

    private static void joining() {
        MoonPromises x = Check.told(TWO + "promise 0 to 1 worth 100 said 3;promise 0 to 1 worth 60 said 3;"
            + "promise 0 to 1 worth 7 said 4 drunk;"
            + "promise 1 to 0 worth 9 said 4;promise 1 to 0 worth 9 said 4;");
        // Two halvings each: 160 halved once, less 25 and 15.
        Check.due("joins(0, 1)", x.joins(0, 1), 40);
        Check.due("joins(1, 0)", x.joins(1, 0), 40);
        // Drunk: two halvings too. 107 halved once is 54, less 25 and 2.
        Check.due("joins(0, 2)", x.joins(0, 2), 27);
        Check.due("joins(1, 2)", x.joins(1, 2), 34 - 15 - 2);
        Check.due("joins(3, 4)", x.joins(3, 4), 18 - 5 - 5);
        Check.due("joined()", x.joined(), 1);
        MoonPromises ones = Check.told("isles 1 at 20;person on 0;person on 0;promise 0 to 1 worth 1 said 0;"
            + "promise 0 to 1 worth 1 said 0;promise 0 to 1 worth 1 said 0;");
        Check.due("joins(0, 1): 20 halvings, less by rounding", ones.joins(0, 1), -1);
        Check.due("joined(): the first of several", ones.joined(), 1);
        ones.passes();
        Check.due("joins(0, 1): 21 halvings", ones.joins(0, 1), -5);
        Check.due("joined(): none", ones.joined(), -1);
        MoonPromises great = Check.told("isles 1 at 9;person on 0;person on 0;promise 0 to 1 worth 3 said 8;"
            + "promise 0 to 1 worth 1000000 said 8;promise 0 to 1 worth 1000000 said 8;");
        Check.due("joins(1, 2) of the greatest", great.joins(1, 2), 1000000);
        Check.due("joined() of the greatest", great.joined(), 12);
    }

    private static void whatCantBeJoined() {
        MoonPromises x = Check.told(TWO + "promise 0 to 1 worth 100 said 4;promise 1 to 0 worth 60 said 4;"
            + "promise 0 to 2 worth 60 said 4;promise 0 to 1 worth 60 said 3;promise 0 to 1 worth 60 said 5;"
            + "promise 0 to 1 worth 60 said 5;promise 0 to 1 worth 60 said 4 on 3;promise 2 to 1 worth 60 said 4;");
        Check.due("joins(0, 1): the other way", x.joins(0, 1), -5);
        Check.due("joins(0, 2): to another one", x.joins(0, 2), -5);
        Check.due("joins(0, 7): of another one", x.joins(0, 7), -5);
        Check.due("joins(0, 3): one on it, unlike", x.joins(0, 3), -5);
        Check.due("joins(4, 5): no halvings", x.joins(4, 5), -5);
        Check.due("joins(0, 6): on another one", x.joins(0, 6), -5);
        Check.due("joins(6, 0): on another one", x.joins(6, 0), -5);
        Check.due("joins(0, 0)", x.joins(0, 0), -2);
        Check.due("joins(0, 8)", x.joins(0, 8), -2);
        Check.due("joins(-1, 0)", x.joins(-1, 0), -2);
        Check.due("joined()", x.joined(), -1);
        MoonPromises y = Check.told(TWO + "promise 0 to 1 worth 100 said 4;promise 0 to 1 worth 60 said 4;"
            + "promise 2 to 1 worth 1 said 4 on 1;");
        Check.due("joins(0, 1): one on it", y.joins(0, 1), -5);
        Check.due("joined() of none", Check.told("isles 1 at 5;").joined(), -1);
        Check.due("joined() without isles", new MoonPromises().joined(), -2);
    }

    private static void rings() {
        MoonPromises x = Check.told("isles 1 at 5;person on 0;person on 0;person on 0;person on 0;"
            + "promise 1 to 2 worth 80 said 4;promise 2 to 0 worth 30 said 5;promise 0 to 1 worth 50 said 5;"
            + "promise 2 to 3 worth 40 said 5;promise 3 to 1 worth 90 said 5;promise 2 to 0 worth 20 said 5;");
        Check.due("strikes(0, 1, 2, 5)", x.strikes(0, 1, 2, 5), 40);
        Check.due("strikes(1, 2, 0, 5)", x.strikes(1, 2, 0, 5), 40);
        Check.due("strikes(0, 2, 1, 5)", x.strikes(0, 2, 1, 5), 0);
        Check.due("strikes(1, 2, 3, 5)", x.strikes(1, 2, 3, 5), 40);
        Check.due("ring(5): the first of two", x.ring(5), 40);
        int[] row = {0, 1, 2};
        for (int i = 0; i < 3; i++) {
            Check.due("ringed(5, " + i + ")", x.ringed(5, i), row[i]);
        }
        Check.due("ring(6)", x.ring(6), 20);
        Check.due("ring(4)", x.ring(4), 0);
        Check.due("ringed(4, 0)", x.ringed(4, 0), -1);
        Check.due("ringed(5, 3)", x.ringed(5, 3), -1);
        Check.due("ringed(5, -1)", x.ringed(5, -1), -1);
        x.passes();
        x.says(3);
        x.says(0);
        // Now 2 owes 3 and 3 owes 1 45, what 0 owes is halved.
        Check.due("ring(6) said again", x.ring(6), 40);
        Check.due("ringed(6, 0) said again", x.ringed(6, 0), 1);
        Check.due("ringed(6, 1) said again", x.ringed(6, 1), 2);
        Check.due("ringed(6, 2) said again", x.ringed(6, 2), 3);
        int[] wrong = {-1, 100};
        for (int w : wrong) {
            Check.due("ring(wrong)", x.ring(w), -2);
            Check.due("ringed(wrong, 0)", x.ringed(w, 0), -2);
            Check.due("strikes(0, 1, 2, wrong)", x.strikes(0, 1, 2, w), -2);
            Check.due("strikes(wrong, 1, 2, 5)", x.strikes(w, 1, 2, 5), -2);
            Check.due("strikes(0, wrong, 2, 5)", x.strikes(0, w, 2, 5), -2);
            Check.due("strikes(0, 1, wrong, 5)", x.strikes(0, 1, w, 5), -2);
        }
        Check.due("strikes(0, 0, 1, 5)", x.strikes(0, 0, 1, 5), -2);
        Check.due("strikes(0, 1, 0, 5)", x.strikes(0, 1, 0, 5), -2);
        Check.due("strikes(0, 1, 1, 5)", x.strikes(0, 1, 1, 5), -2);
        Check.due("ring(5) without isles", new MoonPromises().ring(5), -2);
        Check.due("ringed(5, 0) without isles", new MoonPromises().ringed(5, 0), -2);
        Check.due("ring(5) of two people", Check.told("isles 1 at 5;person on 0;person on 0;").ring(5), 0);
        Check.due("ringed(5, 0) of two people",
            Check.told("isles 1 at 5;person on 0;person on 0;").ringed(5, 0), -1);
    }
}
