/** Promises 42 to 49: weighings, and the game of threats. */
public final class WeighingsTest {
    private static final String TEXT = "isles 1 at 9;person on 0 dies 6;person on 0;"
        + "promise 0 to 1 worth 100 said 4;promise 0 to 1 worth 100 said 4 drunk;"
        + "promise 0 to 1 worth 1 said 9;promise 0 to 1 worth 8 said 4 on 0;";

    private WeighingsTest() {
    }

    public static void main(String[] args) {
        ways();
        whichMoonToWeigh();
        firstSayings();
        spans();
        wrongWeighings();
        threats();
        wrongThreats();
        Check.finish("WeighingsTest");
    }

    private static void weighs(MoonPromises x, int promise, int ways, int all, int some, int times) {
        Check.due("weighed(0, " + promise + ")", x.weighed(0, promise), ways);
        Check.due("must(0, " + promise + ", 0)", x.must(0, promise, 0), all);
        Check.due("must(0, " + promise + ", 1)", x.must(0, promise, 1), some);
        Check.due("times(0, " + promise + ")", x.times(0, promise), times);
    }

    private static void ways() {
        MoonPromises x = Check.told(TEXT);
        Check.slot(x, 0, 1);
        weighs(x, 0, 1024, 0, 1023, 0);
        // Half in moon 7: said in 6, not in 7; who owes it is dead, but lives for ever here.
        Check.slot(x, 0, 1, 7, 50);
        weighs(x, 0, 256, 2, 1023 - 4, 1);
        Check.slot(x, 0, 1, 7, 13);
        weighs(x, 0, 128, 0, 1023 - 7, 0);
        weighs(x, 1, 0, 0, 0, -1);
        Check.slot(x, 0, 1, 7, 7);
        weighs(x, 0, 0, 0, 0, -1);
        weighs(x, 1, 128, 0, 1023 - 7, 0);
        Check.slot(x, 0, 1, 4, 50);
        weighs(x, 0, 0, 0, 0, -1);
        weighs(x, 1, 1024, 0, 1023, 0);
        Check.slot(x, 0, 1, 14, 100, 4, 100, 14, 100);
        weighs(x, 0, 512, 512, 1023, 1);
        Check.slot(x, 0, 1, 14, 100, 14, 50);
        weighs(x, 0, 0, 0, 0, -1);
        Check.slot(x, 0, 3, 9, 1);
        weighs(x, 2, 1024, 0, 1023, 0);
        Check.slot(x, 0, 3, 5, 50, 6, 25, 7, 100, 8, 50, 9, 100, 10, 50, 11, 25, 12, 13, 13, 7, 14, 4);
        weighs(x, 0, 1, 4 + 16, 4 + 16, 2);
    }

    private static void whichMoonToWeigh() {
        MoonPromises x = Check.told(TEXT);
        Check.slot(x, 0, 1);
        // Half of the ways have it said in any moon; later ones part the others further: 512 at worst.
        Check.due("weigh(0, 0)", x.weigh(0, 0), 5);
        Check.due("weigh(0, 2): always 1", x.weigh(0, 2), -1);
        // Moon 5 is known, so moon 6 is first.
        Check.slot(x, 0, 1, 5, 50);
        Check.due("weigh(0, 0) then", x.weigh(0, 0), 6);
        Check.slot(x, 0, 1, 5, 50, 6, 25, 7, 100, 8, 50, 9, 100, 10, 50, 11, 25, 12, 13, 13, 7, 14, 4);
        Check.due("weigh(0, 0) of one way", x.weigh(0, 0), -1);
        Check.slot(x, 0, 1, 5, 3);
        Check.due("weigh(0, 0) of no way", x.weigh(0, 0), -1);
    }

    private static void firstSayings() {
        MoonPromises x = Check.told(TEXT);
        Check.slot(x, 0, 1);
        Check.due("said(0, 0) of all", x.said(0, 0), 0x7fffffff);
        Check.slot(x, 0, 1, 7, 50);
        Check.due("said(0, 0)", x.said(0, 0), 1 << 6);
        Check.due("said(0, 1): drunk", x.said(0, 1), 1 << 7);
        Check.slot(x, 0, 1, 14, 1);
        Check.due("said(0, 0): halved away", x.said(0, 0), (1 << 8) - 1);
        Check.due("said(0, 2)", x.said(0, 2), (1 << 15) - 1);
        Check.slot(x, 0, 1, 7, 50, 8, 24);
        Check.due("said(0, 0) of none", x.said(0, 0), 0);
        Check.slot(x, 0, 1, 7, 50, 8, 25);
        Check.due("said(0, 0) of two", x.said(0, 0), 1 << 6);
        Check.slot(x, 0, 1, 7, 50, 7, 25);
        Check.due("said(0, 0) of a clash", x.said(0, 0), 0);
    }

    private static void spanIs(MoonPromises x, int promise, int least, int greatest) {
        Check.due("span(0, " + promise + ", 0)", x.span(0, promise, 0), least);
        Check.due("span(0, " + promise + ", 1)", x.span(0, promise, 1), greatest);
    }

    private static void spans() {
        MoonPromises x = Check.told(TEXT);
        Check.slot(x, 0, 2);
        spanIs(x, 0, 1, 1000000);
        Check.slot(x, 0, 2, 7, 13);
        spanIs(x, 0, 97, 104);
        spanIs(x, 1, 193, 208);
        Check.slot(x, 0, 2, 7, 13, 6, 26);
        spanIs(x, 0, 101, 104);
        Check.slot(x, 0, 2, 7, 13, 6, 27);
        spanIs(x, 0, -1, -1);
        Check.slot(x, 0, 2, 7, 13, 7, 14);
        spanIs(x, 0, -1, -1);
        Check.slot(x, 0, 2, 4, 77);
        spanIs(x, 0, 77, 77);
        Check.slot(x, 0, 2, 14, 977);
        spanIs(x, 0, 976 * 1024 + 1, 1000000);
        Check.slot(x, 0, 2, 14, 978);
        spanIs(x, 0, -1, -1);
        Check.slot(x, 0, 2, 14, 1000000);
        spanIs(x, 1, -1, -1);
        Check.slot(x, 0, 2, 14, 1);
        spanIs(x, 1, 1, 2048);
    }

    private static void weighsAll(String what, MoonPromises x, int slot, int promise, int want) {
        Check.due("weighed: " + what, x.weighed(slot, promise), want);
        Check.due("must 0: " + what, x.must(slot, promise, 0), want);
        Check.due("must 1: " + what, x.must(slot, promise, 1), want);
        Check.due("times: " + what, x.times(slot, promise), want);
        Check.due("weigh: " + what, x.weigh(slot, promise), want);
        Check.due("said: " + what, x.said(slot, promise), want);
        Check.due("span 0: " + what, x.span(slot, promise, 0), want);
        Check.due("span 1: " + what, x.span(slot, promise, 1), want);
    }

    private static void wrongWeighings() {
        MoonPromises x = Check.told(TEXT);
        weighsAll("nothing", x, 0, 0, -6);
        weighsAll("nothing, no promise", x, 0, 4, -2);
        weighsAll("nothing, on another", x, 0, 3, -2);
        weighsAll("no slot", x, 4, 0, -2);
        weighsAll("no slot below", x, -1, 0, -2);
        long[][] wrong = {{3, 50}, {15, 50}, {7, 0}, {7, 1000001}, {7, -1}, {-1, 50}, {7}, {7, 50, 8},
            {7, 50, 8, 0}, {1L << 32 | 7, 50}, {7, 1L << 32 | 50}};
        for (long[] numbers : wrong) {
            Check.slot(x, 1, 3, numbers);
            weighsAll("wrong numbers", x, 1, 0, -2);
        }
        Check.slot(x, 1, 0, 7, 200);
        weighsAll("cut to below 0", x, 1, 0, -2);
        Check.slot(x, 1, 0, 7, 50);
        weighsAll("no such promise", x, 1, 4, -2);
        weighsAll("no such promise below", x, 1, -1, -2);
        weighsAll("on another", x, 1, 3, -2);
        Check.due("must what 2", x.must(1, 0, 2), -2);
        Check.due("must what -1", x.must(1, 0, -1), -2);
        Check.due("span what 2", x.span(1, 0, 2), -2);
        Check.due("span what -1", x.span(1, 0, -1), -2);
    }

    private static void threat(int wins, int turn, long... numbers) {
        MoonPromises x = new MoonPromises();
        Check.slot(x, 2, 0, numbers);
        Check.due("wins", x.wins(2), wins);
        Check.due("turn", x.turn(2), turn);
    }

    private static void threats() {
        threat(0, -1);
        threat(0, -1, 0);
        threat(1, 0, 1);
        threat(0, -1, 2);
        threat(1, 0, 3);
        threat(1, 0 + 10, 4);
        threat(1, 10, 3, 4);
        threat(0, -1, 1, 1);
        threat(1, 1, 0, 1);
        threat(0, -1, 0, 0, 0, 0, 0, 0, 0, 0);
        threat(1, 7, 0, 0, 0, 0, 0, 0, 0, 1);
        threat(0, -1, 99, 99, 98, 98, 7, 7, 50, 50);
    }

    private static void wrongThreats() {
        MoonPromises x = new MoonPromises();
        Check.due("wins(0) of nothing", x.wins(0), -6);
        Check.due("turn(0) of nothing", x.turn(0), -6);
        Check.due("wins(4)", x.wins(4), -2);
        Check.due("wins(-1)", x.wins(-1), -2);
        Check.due("turn(4)", x.turn(4), -2);
        long[][] wrong = {{100}, {-1}, {1, 2, 100}, {0, 0, 0, 0, 0, 0, 0, 0, 0}, {1L << 32}};
        for (long[] numbers : wrong) {
            Check.slot(x, 0, 3, numbers);
            Check.due("wins(0) wrong", x.wins(0), -2);
            Check.due("turn(0) wrong", x.turn(0), -2);
        }
    }
}
