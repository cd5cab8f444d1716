/** Promises 50 to 52: years drawn. */
public final class YearsTest {
    private static final String TEXT = "isles 2 at 5;person on 0 tends 50;person on 1 tends 100;person on 0 dies 8;"
        + "promise 0 to 1 worth 100 said 4;promise 1 to 0 worth 64 said 0;promise 1 to 2 worth 64 said 5;"
        + "promise 1 to 0 worth 32 said 5 on 0;promise 2 to 1 worth 9 said 2;";

    private YearsTest() {
    }

    public static void main(String[] args) {
        byHand();
        surely();
        wrongOnes();
        Check.finish("YearsTest");
    }

    /** From seed 7 the draws begin with 7724617771 % 2^31 = 1282166827, / 65536 = 19564: 64. */
    private static void byHand() {
        String two = "isles 2 at 5;person on 0 tends ";
        String rest = ";person on 1;promise 0 to 1 worth 100 said 4;";
        MoonPromises at64 = Check.told(two + 64 + rest);
        Check.due("drawn(7, 1, 0): 64 is not below 64", at64.drawn(7, 1, 0), 25);
        Check.due("often(7, 1, 0): 64 is not below 64", at64.often(7, 1, 0), 0);
        MoonPromises at65 = Check.told(two + 65 + rest);
        Check.due("drawn(7, 1, 0): 64 is below 65", at65.drawn(7, 1, 0), 100);
        Check.due("often(7, 1, 0): 64 is below 65", at65.often(7, 1, 0), 1);
        // From seed 0 the first is 12345, cut to 0.
        MoonPromises at1 = Check.told(two + 1 + rest);
        Check.due("drawn(0, 1, 0): 0 is below 1", at1.drawn(0, 1, 0), 100);
        Check.due("often(0, 1, 0): 0 is below 1", at1.often(0, 1, 0), 1);
        Check.due("lucky(0, 1, 1, 0): 0 is below 1", at1.lucky(0, 1, 1, 0), 1);
        Check.due("lucky(7, 1, 1, 0)", at65.lucky(7, 1, 1, 0), 1);
        Check.due("lucky(7, 1, 1, 0), unsaid", at64.lucky(7, 1, 1, 0), 0);
    }

    private static void surely() {
        MoonPromises x = Check.told(TEXT);
        Check.due("drawn(7, 40, 1): always said", x.drawn(7, 40, 1), 64);
        Check.due("often(7, 40, 1): always said", x.often(7, 40, 1), 40);
        Check.due("lucky(7, 20, 40, 1): always said", x.lucky(7, 20, 40, 1), 20);
        // Who is owed dies in moon 8: said in 6 and 7.
        Check.due("often(7, 5, 2)", x.often(7, 5, 2), 2);
        Check.due("drawn(7, 3, 2)", x.drawn(7, 3, 2), 32);
        Check.due("lucky(7, 3, 3, 2)", x.lucky(7, 3, 3, 2), 3);
        Check.due("lucky(7, 3, 4, 2)", x.lucky(7, 3, 4, 2), 0);
        // Never said: since moon 2, and dead from moon 8 on.
        Check.due("often(7, 40, 4)", x.often(7, 40, 4), 0);
        Check.due("drawn(7, 1, 4)", x.drawn(7, 1, 4), 1);
        Check.due("tends(0, 0)", x.tends(0, 0), 50);
        Check.due("drawn(7, 2, 0) never said", x.drawn(7, 2, 0), 13);
        Check.due("drawn(7, 2, 3) on it", x.drawn(7, 2, 3), 4);
        Check.due("it changes nothing", x.worth(1, 6), 1);
        Check.due("tends(0, 100)", x.tends(0, 100), 0);
        Check.due("drawn(7, 2, 3) on one said", x.drawn(7, 2, 3), 32);
        Check.due("drawn(2000000000, 1, 0)", x.drawn(2000000000, 1, 0), 100);
        Check.due("lucky(2000000000, 20, 1, 0)", x.lucky(2000000000, 20, 1, 0), 20);
        x.passes();
        Check.due("drawn(7, 1, 1) from moon 6", x.drawn(7, 1, 1), 64);
    }

    private static void wrongOnes() {
        MoonPromises x = Check.told(TEXT);
        int[][] wrong = {{-1, 1, 0}, {2000000001, 1, 0}, {7, 0, 0}, {7, 41, 0}, {7, 1, 5}, {7, 1, -1},
            {Integer.MIN_VALUE, 1, 0}, {7, Integer.MAX_VALUE, 0}};
        for (int[] w : wrong) {
            Check.due("drawn wrong", x.drawn(w[0], w[1], w[2]), -2);
            Check.due("often wrong", x.often(w[0], w[1], w[2]), -2);
            Check.due("lucky wrong", x.lucky(w[0], 1, w[1], w[2]), -2);
        }
        Check.due("lucky of 0", x.lucky(7, 0, 1, 0), -2);
        Check.due("lucky of 21", x.lucky(7, 21, 1, 0), -2);
        // There are no moons above 99.
        MoonPromises late = Check.told("isles 1 at 60;person on 0;person on 0;promise 0 to 1 worth 8 said 60;");
        Check.due("drawn(7, 39, 0) to 99", late.drawn(7, 39, 0), 1);
        Check.due("drawn(7, 40, 0) above 99", late.drawn(7, 40, 0), -2);
        Check.due("often(7, 40, 0) above 99", late.often(7, 40, 0), -2);
        Check.due("lucky(7, 1, 40, 0) above 99", late.lucky(7, 1, 40, 0), -2);
    }
}
