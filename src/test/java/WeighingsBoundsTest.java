/** Bounds of terms VI and VII and promises 42 to 49: each just below, at and just above. */
public final class WeighingsBoundsTest {
    private static final String TWO = "isles 1 at 40;person on 0 dies 3;person on 0;";

    private WeighingsBoundsTest() {
    }

    public static void main(String[] args) {
        moonsOfWeighings();
        worthsOfWeighings();
        twoEach();
        slotsAndPromises();
        noSuchWhat();
        rowsOfNothing();
        tenMoonsBehind();
        drunkAsTold();
        waysThatFit();
        moonsInAllAndSome();
        fewestTimes();
        whichToWeigh();
        moonsItWasSaidFirst();
        fullWorths();
        theWorldIsNoMatter();
        numbersOfAThreat();
        placesOfATurn();
        takingOrHalving();
        Check.finish("WeighingsBoundsTest");
    }

    private static MoonPromises one(int worth, int said) {
        return Check.told(TWO + "promise 0 to 1 worth " + worth + " said " + said + ";");
    }

    /** All calls that weigh answer this. */
    private static void all(String of, MoonPromises x, int slot, int promise, int want) {
        Check.due("weighed: " + of, x.weighed(slot, promise), want);
        Check.due("must 0: " + of, x.must(slot, promise, 0), want);
        Check.due("must 1: " + of, x.must(slot, promise, 1), want);
        Check.due("times: " + of, x.times(slot, promise), want);
        Check.due("weigh: " + of, x.weigh(slot, promise), want);
        Check.due("said: " + of, x.said(slot, promise), want);
        Check.due("span 0: " + of, x.span(slot, promise, 0), want);
        Check.due("span 1: " + of, x.span(slot, promise, 1), want);
    }

    private static void ways(MoonPromises x, int promise, int ways, int must, int may, int times) {
        Check.due("weighed(0, " + promise + ")", x.weighed(0, promise), ways);
        Check.due("must(0, " + promise + ", 0)", x.must(0, promise, 0), must);
        Check.due("must(0, " + promise + ", 1)", x.must(0, promise, 1), may);
        Check.due("times(0, " + promise + ")", x.times(0, promise), times);
    }

    private static void moonsOfWeighings() {
        for (int said : new int[] {0, 1, 20, 30}) {
            MoonPromises x = one(1, said);
            for (int moon : new int[] {said - 1, said + 11, -1, 100}) {
                Check.slot(x, 0, 3, moon, 1);
                all("moon " + moon + " of " + said, x, 0, 0, -2);
            }
            for (int moon : new int[] {said, said + 1, said + 9, said + 10}) {
                Check.slot(x, 0, 3, moon, 1);
                ways(x, 0, 1024, 0, 1023, 0);
                Check.due("weigh", x.weigh(0, 0), -1);
                Check.due("span 0", x.span(0, 0, 0), 1);
                Check.due("span 1", x.span(0, 0, 1), 1 << moon - said);
            }
        }
        // The ten behind its own are there above moon 99, too.
        MoonPromises late = Check.told("isles 1 at 99;person on 0;person on 0;promise 0 to 1 worth 2 said 95;");
        for (int moon : new int[] {94, 106}) {
            Check.slot(late, 0, 3, moon, 1);
            all("moon " + moon + " of 95", late, 0, 0, -2);
        }
        for (int moon : new int[] {96, 99, 100, 105}) {
            Check.slot(late, 0, 3, moon, 2);
            ways(late, 0, 512, 1 << moon - 96, 1023, 1);
        }
        // All numbers are looked at, the last ones too.
        MoonPromises x = one(1, 20);
        Check.slot(x, 0, 3, 20, 1, 21, 1, 31, 1);
        all("the last moon", x, 0, 0, -2);
        Check.slot(x, 0, 3, 31, 1, 21, 1, 30, 1);
        all("the first moon", x, 0, 0, -2);
        Check.slot(x, 0, 3, 1L << 32 | 21, 1);
        all("a moon far above", x, 0, 0, -2);
        Check.slot(x, 0, 3, Long.MIN_VALUE, 1);
        all("a moon far below", x, 0, 0, -2);
        Check.slot(x, 0, 3, Long.MAX_VALUE, 1);
        all("the most of all", x, 0, 0, -2);
    }

    private static void worthsOfWeighings() {
        MoonPromises x = one(1000000, 20);
        for (long worth : new long[] {Long.MIN_VALUE, -1, 0, 1000001, 1L << 32 | 1, Long.MAX_VALUE}) {
            Check.slot(x, 0, 3, 20, worth);
            all("worth " + worth, x, 0, 0, -2);
            Check.slot(x, 0, 3, 20, 1000000, 21, worth);
            all("the last worth " + worth, x, 0, 0, -2);
        }
        Check.slot(x, 0, 3, 20, 1000000);
        ways(x, 0, 1024, 0, 1023, 0);
        Check.slot(x, 0, 3, 20, 999999);
        ways(x, 0, 0, 0, 0, -1);
        Check.slot(x, 0, 3, 20, 1);
        ways(x, 0, 0, 0, 0, -1);
        Check.slot(one(1, 20), 0, 3, 20, 1);
    }

    private static void twoEach() {
        MoonPromises x = one(1, 20);
        for (int pairs = 0; pairs <= 30; pairs++) {
            long[] numbers = new long[2 * pairs];
            for (int i = 0; i < pairs; i++) {
                numbers[2 * i] = 20 + i % 11;
                numbers[2 * i + 1] = 1;
            }
            Check.slot(x, 0, 3, numbers);
            ways(x, 0, 1024, 0, 1023, 0);
            if (pairs < 30) {
                long[] odd = java.util.Arrays.copyOf(numbers, 2 * pairs + 1);
                odd[2 * pairs] = 20;
                Check.slot(x, 0, 3, odd);
                all("not two each", x, 0, 0, -2);
            }
        }
    }

    private static void slotsAndPromises() {
        MoonPromises x = Check.told(TWO + "promise 0 to 1 worth 1 said 20;promise 0 to 1 worth 1 said 20 on 0;"
            + "promise 0 to 1 worth 1 said 20;");
        for (int slot = 0; slot < 4; slot++) {
            Check.slot(x, slot, 3, 20, 1);
            Check.due("weighed of " + slot, x.weighed(slot, 0), 1024);
            Check.due("span of " + slot, x.span(slot, 0, 1), 1);
        }
        all("slot -1", x, -1, 0, -2);
        all("slot 4", x, 4, 0, -2);
        all("promise -1", x, 0, -1, -2);
        all("promise on another", x, 0, 1, -2);
        Check.due("weighed of one that another is on", x.weighed(0, 0), 1024);
        Check.due("weighed of the last", x.weighed(0, 2), 1024);
        all("promise 3", x, 0, 3, -2);
        all("promise 10", x, 0, 10, -2);
        MoonPromises none = new MoonPromises();
        Check.slot(none, 0, 3, 20, 1);
        all("no isles", none, 0, 0, -2);
        all("no isles, nothing", none, 1, 0, -2);
    }

    private static void noSuchWhat() {
        MoonPromises x = one(1, 20);
        Check.slot(x, 0, 3, 20, 1);
        Check.edges("must(0, 0, what)", w -> x.must(0, 0, w), -1, -2, 0, 0, 1, 1023, 2, -2, Integer.MIN_VALUE, -2);
        Check.edges("span(0, 0, what)", w -> x.span(0, 0, w), -1, -2, 0, 1, 1, 1, 2, -2, Integer.MAX_VALUE, -2);
        Check.slot(x, 1, 3);
        Check.edges("span(1, 0, what) of no numbers", w -> x.span(1, 0, w), -1, -2, 0, 1, 1, 1000000, 2, -2);
    }

    private static void rowsOfNothing() {
        MoonPromises x = Check.told(TWO + "promise 0 to 1 worth 1 said 20;promise 0 to 1 worth 1 said 20 on 0;");
        for (int slot = 0; slot < 4; slot++) {
            all("nothing", x, slot, 0, -6);
            all("nothing, on another", x, slot, 1, -2);
            all("nothing, no promise", x, slot, 2, -2);
        }
        all("no slot", x, 4, 0, -2);
        // A row of no numbers is something.
        x.row(0, 0, 0);
        ways(x, 0, 1024, 0, 1023, 0);
        Check.due("said of no numbers", x.said(0, 0), 0x7fffffff);
        all("nothing yet", x, 1, 0, -6);
    }

    private static void tenMoonsBehind() {
        MoonPromises x = one(1000000, 20);
        for (int d = 1; d <= 10; d++) {
            Check.slot(x, 0, 3, 20 + d, 1000000);
            ways(x, 0, 512, 1 << d - 1, 1023, 1);
            // Said in none of them so far.
            Check.slot(x, 0, 3, 20 + d, Model.halved(1000000, d));
            int free = 10 - d;
            ways(x, 0, 1 << free, 0, (1 << free) - 1 << d, 0);
        }
        // Its own moon tells nothing of those behind it.
        Check.slot(x, 0, 3, 20, 1000000);
        ways(x, 0, 1024, 0, 1023, 0);
    }

    private static void drunkAsTold() {
        MoonPromises x = Check.told(TWO + "promise 0 to 1 worth 1000 said 20 drunk;promise 0 to 1 worth 1000 said 20;");
        Check.slot(x, 0, 3, 20, 500);
        ways(x, 0, 1024, 0, 1023, 0);
        ways(x, 1, 0, 0, 0, -1);
        Check.slot(x, 0, 3, 20, 1000);
        ways(x, 0, 0, 0, 0, -1);
        ways(x, 1, 1024, 0, 1023, 0);
        // Drunk in its first alone: 500 in the next moon is not known of it, 250 is that it was not said.
        Check.slot(x, 0, 3, 21, 250);
        ways(x, 0, 512, 0, 1022, 0);
        ways(x, 1, 0, 0, 0, -1);
        Check.slot(x, 0, 3, 21, 500);
        ways(x, 0, 0, 0, 0, -1);
        ways(x, 1, 512, 0, 1022, 0);
        Check.slot(x, 0, 3, 30, 1);
        ways(x, 0, 1, 0, 0, 0);
        ways(x, 1, 1, 0, 0, 0);
        Check.slot(x, 0, 3, 30, 2);
        ways(x, 0, 1, 1, 1, 1);
    }

    private static void waysThatFit() {
        MoonPromises x = one(8, 20);
        // 8 4 2 1 1 ..: half in 22 is said in 21 and not in 22.
        Check.slot(x, 0, 3, 22, 4);
        ways(x, 0, 256, 1, 1021, 1);
        Check.slot(x, 0, 3, 22, 4, 23, 4);
        ways(x, 0, 0, 0, 0, -1);
        Check.slot(x, 0, 3, 22, 4, 23, 2);
        ways(x, 0, 128, 1, 1017, 1);
        Check.slot(x, 0, 3, 22, 4, 23, 8);
        ways(x, 0, 128, 1 + 4, 1021, 2);
        // One that was weighed twice: alike, it is as one; unlike, there is no way.
        Check.slot(x, 0, 3, 22, 4, 22, 4);
        ways(x, 0, 256, 1, 1021, 1);
        Check.slot(x, 0, 3, 22, 4, 22, 8);
        ways(x, 0, 0, 0, 0, -1);
        Check.slot(x, 0, 3, 22, 8, 22, 4);
        ways(x, 0, 0, 0, 0, -1);
        Check.slot(x, 0, 3, 20, 2, 20, 1);
        Check.edges("span of a clash in its own", w -> x.span(0, 0, w), 0, -1, 1, -1);
        Check.slot(x, 0, 3, 20, 1, 20, 2);
        Check.edges("span of a clash in its own", w -> x.span(0, 0, w), 0, -1, 1, -1);
        Check.slot(x, 0, 3, 30, 1, 30, 2);
        Check.due("said of a clash ten behind", x.said(0, 0), 0);
        Check.slot(x, 0, 3, 30, 2);
        Check.due("said of ten behind", x.said(0, 0), 1 << 28);
        Check.slot(x, 0, 3, 22, 4, 23, 2, 22, 8);
        ways(x, 0, 0, 0, 0, -1);
        Check.due("weigh of no way", x.weigh(0, 0), -1);
        Check.due("said of no way", x.said(0, 0), 0);
        Check.due("span of no way", x.span(0, 0, 0), -1);
        Check.due("span of no way", x.span(0, 0, 1), -1);
        // Halved away it tells no more: 1 in 30 was not said in 28 .. 30.
        Check.slot(x, 0, 3, 30, 1);
        ways(x, 0, 128, 0, 127, 0);
    }

    private static void moonsInAllAndSome() {
        MoonPromises x = one(8, 20);
        Check.slot(x, 0, 3, 21, 8, 30, 8);
        ways(x, 0, 256, 1 + 512, 1023, 2);
        Check.slot(x, 0, 3, 21, 4, 30, 4);
        ways(x, 0, 128, 256, 1023 - 1 - 512, 1);
        Check.slot(x, 0, 3, 21, 8, 22, 8, 23, 8, 24, 8, 25, 8, 26, 8, 27, 8, 28, 8, 29, 8, 30, 8);
        ways(x, 0, 1, 1023, 1023, 10);
        Check.slot(x, 0, 3, 21, 4, 22, 2, 23, 1, 24, 1, 25, 1, 26, 1, 27, 1, 28, 1, 29, 1, 30, 1);
        ways(x, 0, 1, 0, 0, 0);
    }

    private static void fewestTimes() {
        MoonPromises x = one(8, 20);
        long[] numbers = new long[20];
        for (int d = 1; d <= 10; d++) {
            numbers[2 * d - 2] = 20 + d;
            numbers[2 * d - 1] = 8;
            Check.slot(x, 0, 3, java.util.Arrays.copyOf(numbers, 2 * d));
            Check.due("times of " + d, x.times(0, 0), d);
        }
        Check.slot(x, 0, 3, 30, 2);
        ways(x, 0, 128, 128, 255, 1);
    }

    private static void whichToWeigh() {
        MoonPromises x = Check.told(TWO + "promise 0 to 1 worth 2 said 20;promise 0 to 1 worth 1 said 20;"
            + "promise 0 to 1 worth 1000 said 20;promise 0 to 1 worth 2 said 20 drunk;");
        // Of two ways none leaves fewer than one; of one way, or none, or where all weigh alike: none.
        Check.slot(x, 0, 3);
        Check.due("weigh(0, 0): half are left at worst", x.weigh(0, 0), 21);
        Check.due("weigh(0, 1): always 1", x.weigh(0, 1), -1);
        Check.due("weigh(0, 2)", x.weigh(0, 2), 21);
        Check.due("weigh(0, 3)", x.weigh(0, 3), 21);
        long[] numbers = new long[20];
        for (int d = 1; d <= 10; d++) {
            numbers[2 * d - 2] = 20 + d;
            numbers[2 * d - 1] = 2;
            Check.slot(x, 0, 3, java.util.Arrays.copyOf(numbers, 2 * d));
            Check.due("weigh(0, 0) behind " + d, x.weigh(0, 0), d < 10 ? 21 + d : -1);
        }
        // The last one alone is open.
        Check.slot(x, 0, 3, java.util.Arrays.copyOf(numbers, 18));
        Check.due("weigh(0, 0) of the last", x.weigh(0, 0), 30);
        // Weighed in 30 as 500 it was said in 29: 21 .. 28 are open, the first leaves half.
        Check.slot(x, 0, 3, 30, 500);
        Check.due("weigh(0, 2) of 30 weighed", x.weigh(0, 2), 21);
        // Weighed in 23 as 250: said in 21, not in 22 and 23.
        Check.slot(x, 0, 3, 23, 250);
        Check.due("weigh(0, 2) of 23 weighed", x.weigh(0, 2), 24);
        // A later one parts three ways better than the first: 1 1 2 4 8 .. of 1000 in 30.
        Check.slot(x, 0, 3, 29, 2);
        Check.due("weighed(0, 2) of 29", x.weighed(0, 2), 2);
        Check.due("weigh(0, 2) of 29", x.weigh(0, 2), 30);
    }

    private static void moonsItWasSaidFirst() {
        // The bits 0 and 30, and none above.
        MoonPromises low = one(8, 0);
        Check.slot(low, 0, 3, 0, 8);
        Check.due("said: moon 0", low.said(0, 0), 1);
        Check.slot(low, 0, 3, 1, 8);
        Check.due("said: moon 1", low.said(0, 0), 2);
        MoonPromises high = one(8, 30);
        Check.slot(high, 0, 3, 30, 8);
        Check.due("said: moon 30", high.said(0, 0), 1 << 30);
        Check.slot(high, 0, 3, 31, 8);
        Check.due("said: not moon 31", high.said(0, 0), 0);
        Check.slot(high, 0, 3, 31, 4);
        Check.due("said: moon 30 by half", high.said(0, 0), 1 << 30);
        Check.slot(high, 0, 3, 40, 1);
        Check.due("said: all to moon 30", high.said(0, 0), 0x7fffffff);
        Check.slot(high, 0, 3, 30, 4);
        Check.due("said: moon 29", high.said(0, 0), 1 << 29);
        Check.slot(high, 0, 3, 30, 1);
        Check.due("said: to moon 27", high.said(0, 0), (1 << 28) - 1);
        // Not said yet it weighs nothing: no later than the first weighing.
        MoonPromises x = one(1, 20);
        Check.slot(x, 0, 3, 25, 1, 22, 1);
        Check.due("said: to moon 22", x.said(0, 0), (1 << 23) - 1);
        // Never again: 8 in 21 and 8 in 22 can't be.
        MoonPromises y = one(8, 20);
        Check.slot(y, 0, 3, 21, 8, 22, 8);
        Check.due("said: never again", y.said(0, 0), 0);
        // Drunk as it is.
        MoonPromises drunk = Check.told(TWO + "promise 0 to 1 worth 8 said 20 drunk;");
        Check.slot(drunk, 0, 3, 20, 4);
        Check.due("said: drunk", drunk.said(0, 0), 1 << 20);
        Check.slot(drunk, 0, 3, 20, 8);
        Check.due("said: drunk, never whole", drunk.said(0, 0), 0);
        Check.slot(drunk, 0, 3, 20, 2);
        Check.due("said: drunk, a moon ahead", drunk.said(0, 0), 1 << 19);
    }

    private static void fullWorths() {
        MoonPromises x = Check.told(TWO + "promise 0 to 1 worth 1 said 20;promise 0 to 1 worth 1 said 20 drunk;");
        for (int promise = 0; promise < 2; promise++) {
            int p = promise;
            for (int d = 0; d <= 10; d++) {
                long unit = 1L << d + p;
                for (long worth : new long[] {1, 2, 3, 1000000 / unit, Math.min(1000000, 1000000 / unit + 1), 1000000}) {
                    long least = (worth - 1) * unit + 1;
                    long most = Math.min(1000000, worth * unit);
                    Check.slot(x, 0, 3, 20 + d, worth);
                    int low = least > 1000000 ? -1 : (int) least;
                    int high = least > 1000000 ? -1 : (int) most;
                    Check.edges("span of " + worth + " behind " + d, w -> x.span(0, p, w), 0, low, 1, high);
                }
            }
        }
        Check.slot(x, 0, 3);
        Check.edges("span of all", w -> x.span(0, 0, w), 0, 1, 1, 1000000);
        // Said when it was, never again: two weighings narrow it, or bar it.
        Check.slot(x, 0, 3, 21, 50, 22, 25);
        Check.edges("span of two", w -> x.span(0, 0, w), 0, 99, 1, 100);
        Check.slot(x, 0, 3, 21, 49, 22, 25);
        Check.edges("span of two", w -> x.span(0, 0, w), 0, 97, 1, 98);
        Check.slot(x, 0, 3, 21, 51, 22, 25);
        Check.edges("span of none", w -> x.span(0, 0, w), 0, -1, 1, -1);
        Check.slot(x, 0, 3, 21, 48, 22, 25);
        Check.edges("span of none", w -> x.span(0, 0, w), 0, -1, 1, -1);
        Check.slot(x, 0, 3, 20, 97, 22, 25);
        Check.edges("span of one", w -> x.span(0, 0, w), 0, 97, 1, 97);
        Check.slot(x, 0, 3, 20, 101, 22, 25);
        Check.edges("span of none", w -> x.span(0, 0, w), 0, -1, 1, -1);
    }

    /** Who is dead, what was said again and what the promise is worth now do not count. */
    private static void theWorldIsNoMatter() {
        MoonPromises x = Check.told("isles 1 at 21;person on 0;person on 0 dies 25;promise 0 to 1 worth 8 said 20;");
        x.says(0);
        x.passes();
        x.says(0);
        Check.slot(x, 0, 3, 22, 2);
        ways(x, 0, 256, 0, 1023 - 3, 0);
        Check.due("said", x.said(0, 0), 1 << 20);
        Check.edges("span", w -> x.span(0, 0, w), 0, 5, 1, 8);
        MoonPromises dead = one(8, 20);
        Check.slot(dead, 0, 3, 22, 2);
        ways(dead, 0, 256, 0, 1023 - 3, 0);
    }

    private static void threat(int wins, int turn, long... numbers) {
        MoonPromises x = new MoonPromises();
        for (int slot = 0; slot < 4; slot++) {
            Check.slot(x, slot, 3, numbers);
            Check.due("wins", x.wins(slot), wins);
            Check.due("turn", x.turn(slot), turn);
        }
    }

    private static void numbersOfAThreat() {
        MoonPromises x = new MoonPromises();
        Check.edges("wins(slot)", s -> x.wins(s), -1, -2, 0, -6, 1, -6, 2, -6, 3, -6, 4, -2);
        Check.edges("turn(slot)", s -> x.turn(s), -1, -2, 0, -6, 1, -6, 2, -6, 3, -6, 4, -2);
        for (long number : new long[] {Long.MIN_VALUE, -1, 100, 1L << 32, Long.MAX_VALUE}) {
            threat(-2, -2, number);
            threat(-2, -2, 1, number);
            threat(-2, -2, number, 1, 1, 1, 1, 1, 1, 1);
            threat(-2, -2, 1, 1, 1, 1, 1, 1, 1, number);
        }
        threat(0, -1, 0);
        threat(1, 0, 1);
        threat(1, 0, 99);
        threat(0, -1, 98);
        // Eight at most; none at all is lost.
        threat(0, -1);
        for (int count = 1; count <= 10; count++) {
            long[] ones = new long[count];
            java.util.Arrays.fill(ones, 1);
            threat(count > 8 ? -2 : count % 2, count > 8 ? -2 : count % 2 == 1 ? 0 : -1, ones);
        }
    }

    private static void placesOfATurn() {
        for (int place = 0; place < 8; place++) {
            long[] numbers = new long[8];
            numbers[place] = 1;
            threat(1, place, numbers);
            numbers[place] = 4;
            // By taking 3 is left, which wins for the other one; by halving 2, which loses.
            threat(1, 10 + place, numbers);
        }
        // The first place, though a later one wins by taking.
        threat(1, 10, 4, 1, 1);
        threat(1, 0, 1, 4, 4);
        threat(1, 0, 1, 1, 1);
        threat(1, 0, 2, 1);
        threat(1, 10, 4, 2);
        threat(1, 0, 2, 4);
        threat(1, 11, 0, 4);
    }

    private static void takingOrHalving() {
        // 0 loses; 1 wins (0); 2 loses (1, 1); 3 wins by taking (2); 4 wins by halving; 5 wins by halving (2, cut).
        int[] turns = {-1, 0, -1, 0, 10, 10};
        for (int n = 0; n < turns.length; n++) {
            threat(turns[n] < 0 ? 0 : 1, turns[n], n);
        }
        boolean[] wins = new boolean[100];
        for (int n = 1; n < 100; n++) {
            wins[n] = !wins[n - 1] || !wins[n / 2];
            threat(wins[n] ? 1 : 0, !wins[n] ? -1 : wins[n - 1] ? 10 : 0, n);
        }
        // Taking is told, if both win: 1 can be taken or halved.
        threat(1, 0, 1);
        threat(1, 1, 0, 2, 1);
        threat(1, 2, 0, 0, 1);
    }
}
