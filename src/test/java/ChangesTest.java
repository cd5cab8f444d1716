/** Promises 53 to 61: what changes, counts, images and slots. */
public final class ChangesTest {
    private static final String TEXT = "isles 2 at 5;sea 0 1 oars 2;person on 0 tends 9;person on 1;shut 1 7;"
        + "promise 0 to 1 worth 100 said 4;";

    private ChangesTest() {
    }

    public static void main(String[] args) {
        newPromises();
        harbours();
        tending();
        counts();
        images();
        rowsAndNumbers();
        pasting();
        Check.finish("ChangesTest");
    }

    private static void newPromises() {
        MoonPromises x = Check.told(TEXT);
        Check.due("promises(1, 0, 77)", x.promises(1, 0, 77), 1);
        int[] told = {1, 0, 77, 5, 0, -1};
        for (int what = 0; what < told.length; what++) {
            Check.due("promise(1, " + what + ")", x.promise(1, what), told[what]);
        }
        Check.due("count(2)", x.count(2), 2);
        Check.due("count(6)", x.count(6), 6);
        Check.due("worth(1, 6)", x.worth(1, 6), 39);
        Check.due("promises(0, 0, 1)", x.promises(0, 0, 1), -2);
        Check.due("promises(0, 2, 1)", x.promises(0, 2, 1), -2);
        Check.due("promises(-1, 0, 1)", x.promises(-1, 0, 1), -2);
        Check.due("promises(0, 1, 0)", x.promises(0, 1, 0), -2);
        Check.due("promises(0, 1, 1000001)", x.promises(0, 1, 1000001), -2);
        x.passes();
        Check.due("promises behind an act", x.promises(0, 1, 1), -5);
        Check.due("promises wrong behind an act", x.promises(0, 0, 1), -2);
        x.undo();
        for (int i = 2; i < 10; i++) {
            Check.due("promises(0, 1, 1000000)", x.promises(0, 1, 1000000), i);
        }
        Check.due("promises above ten", x.promises(0, 1, 1), -3);
        Check.due("promises wrong above ten", x.promises(0, 1, 0), -2);
        x.passes();
        Check.due("promises above ten behind an act", x.promises(0, 1, 1), -5);
        Check.due("promises without isles", new MoonPromises().promises(0, 1, 1), -2);
    }

    private static void harbours() {
        MoonPromises x = Check.told(TEXT);
        Check.due("shuts(1, 7, 1)", x.shuts(1, 7, 1), 1);
        Check.due("count(4)", x.count(4), 1);
        Check.due("shuts(1, 7, 0)", x.shuts(1, 7, 0), 1);
        Check.due("open(1, 7)", x.open(1, 7), 1);
        Check.due("count(4) of none", x.count(4), 0);
        Check.due("shuts(1, 7, 0) again", x.shuts(1, 7, 0), 0);
        Check.due("shuts(0, 99, 1)", x.shuts(0, 99, 1), 0);
        Check.due("open(0, 99)", x.open(0, 99), 0);
        Check.due("open(0, 49)", x.open(0, 49), 1);
        Check.due("shuts(2, 7, 1)", x.shuts(2, 7, 1), -2);
        Check.due("shuts(-1, 7, 1)", x.shuts(-1, 7, 1), -2);
        Check.due("shuts(0, 100, 1)", x.shuts(0, 100, 1), -2);
        Check.due("shuts(0, -1, 1)", x.shuts(0, -1, 1), -2);
        Check.due("shuts(0, 7, 2)", x.shuts(0, 7, 2), -2);
        Check.due("shuts(0, 7, -1)", x.shuts(0, 7, -1), -2);
        x.passes();
        Check.due("shuts behind an act", x.shuts(0, 99, 0), -5);
        Check.due("shuts wrong behind an act", x.shuts(0, 100, 0), -2);
        Check.due("open(0, 99) still", x.open(0, 99), 0);
    }

    private static void tending() {
        MoonPromises x = Check.told(TEXT);
        Check.due("tends(0, 100)", x.tends(0, 100), 9);
        x.passes();
        Check.due("tends(0, 0) behind an act", x.tends(0, 0), 100);
        x.undo();
        Check.due("person(0, 2)", x.person(0, 2), 0);
        Check.due("tends(0, 101)", x.tends(0, 101), -2);
        Check.due("tends(0, -1)", x.tends(0, -1), -2);
        Check.due("tends(2, 0)", x.tends(2, 0), -2);
        Check.due("tends(-1, 0)", x.tends(-1, 0), -2);
    }

    private static void counts() {
        MoonPromises x = Check.told(TEXT);
        x.passes();
        x.rows(0, 1);
        x.row(3, 0, 0);
        x.row(1, 2, 5);
        x.feed(1, 2, 3, 4, 5);
        int[] counts = {2, 2, 1, 1, 1, 2, 6, 20, 5, 2};
        for (int what = 0; what < 10; what++) {
            Check.due("count(" + what + ")", x.count(what), counts[what]);
        }
        Check.due("count(10)", x.count(10), -1);
        Check.due("count(-1)", x.count(-1), -1);
    }

    private static void images() {
        MoonPromises x = Check.told(TEXT);
        Check.due("back(0) of nothing", x.back(0), -6);
        Check.due("back(3)", x.back(3), -2);
        Check.due("back(-1)", x.back(-1), -2);
        Check.due("image(3)", x.image(3), -2);
        Check.due("image(-1)", x.image(-1), -2);
        x.passes();
        x.passes();
        x.shuts(1, 7, 0);
        x.anew();
        x.shuts(1, 7, 0);
        x.rows(0, 1);
        x.says(0);
        x.passes();
        Check.due("image(0)", x.image(0), 0);
        x.undo();
        x.undo();
        x.tends(0, 77);
        Check.due("image(2)", x.image(2), 0);
        Check.tell(x, "isles 6 at 50;");
        x.row(0, 0, 1);
        x.feed(1, 2, 3, 4, 5);
        Check.due("back(0)", x.back(0), 0);
        Check.due("now()", x.now(), 6);
        Check.due("worth(0, 6)", x.worth(0, 6), 50);
        Check.due("where(0)", x.where(0), 1);
        Check.due("rowed(0)", x.rowed(0), 2);
        Check.due("open(1, 7)", x.open(1, 7), 1);
        Check.due("person(0, 2)", x.person(0, 2), 9);
        int[] counts = {2, 2, 1, 1, 0, 3, 6, 20, 5, 1};
        for (int what = 0; what < 10; what++) {
            Check.due("count(" + what + ") back", x.count(what), counts[what]);
        }
        Check.due("undo() back", x.undo(), 2);
        Check.due("back(2)", x.back(2), 0);
        Check.due("count(5) of 2", x.count(5), 1);
        Check.due("worth(0, 5) of 2", x.worth(0, 5), 50);
        Check.due("person(0, 2) of 2", x.person(0, 2), 77);
        Check.due("back(0) again", x.back(0), 0);
        Check.due("count(5) of 0", x.count(5), 3);
        Check.due("back(1) of nothing", x.back(1), -6);
        MoonPromises none = new MoonPromises();
        Check.due("image(1) without isles", none.image(1), 0);
        Check.tell(none, TEXT);
        Check.due("back(1) to none", none.back(1), 0);
        Check.due("now() of none", none.now(), -2);
    }

    private static void rowsAndNumbers() {
        MoonPromises x = new MoonPromises();
        Check.due("row(4, 0, 1)", x.row(4, 0, 1), -2);
        Check.due("row(-1, 0, 1)", x.row(-1, 0, 1), -2);
        Check.due("row(0, 4, 1)", x.row(0, 4, 1), -2);
        Check.due("row(0, -1, 1)", x.row(0, -1, 1), -2);
        Check.due("row(0, 0, 61)", x.row(0, 0, 61), -2);
        Check.due("row(0, 0, -1)", x.row(0, 0, -1), -3);
        Check.due("row(0, 4, -1)", x.row(0, 4, -1), -2);
        Check.due("count(9) of none", x.count(9), 0);
        Check.due("write(0, 0, 1) of nothing", x.write(0, 0, 1), -6);
        Check.due("row(0, 0, 60)", x.row(0, 0, 60), 0);
        Check.due("write(0, 59, 1)", x.write(0, 59, 1), 0);
        Check.due("write(0, 60, 1)", x.write(0, 60, 1), -7);
        Check.due("write(0, -1, 1)", x.write(0, -1, 1), -7);
        Check.due("write(4, 0, 1)", x.write(4, 0, 1), -2);
        Check.due("write(-1, 0, 1)", x.write(-1, 0, 1), -2);
        // Cut to its width: as many bytes are left of 2^(8 bytes) + 3.
        for (int width = 0; width < 4; width++) {
            long over = width == 3 ? 3 : (1L << (8 << width)) + 3;
            Check.slot(x, 1, width, over);
            Check.due("wins(1) of 3, cut to width " + width, x.wins(1), 1);
            Check.slot(x, 1, width, 1);
            Check.due("row(1, wrong, -1)", x.row(1, width, -1), -3);
            Check.due("wins(1) as it was", x.wins(1), 1);
        }
        Check.slot(x, 1, 2, (1L << 16) + 3);
        Check.due("wins(1), not cut", x.wins(1), -2);
        Check.slot(x, 1, 1, 256 + 3);
        Check.due("wins(1), not cut to one byte", x.wins(1), -2);
        Check.slot(x, 1, 0, 1);
        Check.due("row(0, 3, 60) ahead of it", x.row(0, 3, 60), 0);
        Check.due("wins(1): the other stays", x.wins(1), 1);
        Check.due("row(3, 3, 60), the last", x.row(3, 3, 60), 0);
        Check.due("write(3, 59, 1), the last", x.write(3, 59, 1), 0);
        Check.due("row(1, 1, 1) in place of it", x.row(1, 1, 1), 0);
        Check.due("wins(1) of 0", x.wins(1), 0);
        Check.due("count(9)", x.count(9), 3);
    }

    private static void pasting() {
        MoonPromises x = new MoonPromises();
        Check.slot(x, 0, 1, 1, 2, 3, 4);
        Check.slot(x, 1, 1, 0, 0, 0, 0, 0);
        Check.slot(x, 2, 0, 0, 0);
        Check.due("paste(4, ..)", x.paste(4, 0, 0, 0, 0), -2);
        Check.due("paste(.., 4)", x.paste(0, 0, 4, 0, 0), -2);
        Check.due("paste(3, .., 4)", x.paste(3, 0, 4, 0, 0), -2);
        Check.due("paste of nothing", x.paste(3, 0, 0, 0, 0), -6);
        Check.due("paste to nothing", x.paste(0, 0, 3, 0, 0), -6);
        Check.due("paste of another width", x.paste(0, -1, 2, 0, 9), -8);
        Check.due("paste beyond its row", x.paste(0, 1, 1, 0, 4), -7);
        Check.due("paste beyond the other row", x.paste(0, 0, 1, 2, 4), -7);
        Check.due("paste far beyond", x.paste(0, Integer.MAX_VALUE, 1, 2, Integer.MAX_VALUE), -7);
        Check.due("paste below 0", x.paste(0, -1, 1, 0, 1), -7);
        Check.due("paste to below 0", x.paste(0, 0, 1, -1, 1), -7);
        Check.due("paste of less than none", x.paste(0, 1, 1, 1, -1), -7);
        Check.due("wins(1): nothing happened", x.wins(1), 0);
        Check.due("paste of none at the end", x.paste(0, 4, 1, 5, 0), 0);
        Check.due("paste of none behind the end", x.paste(0, 5, 1, 5, 0), -7);
        Check.due("paste of two", x.paste(0, 1, 1, 3, 2), 0);
        // Now 0 0 0 2 3: of these numbers 3 alone has a value, and two of it none.
        Check.due("wins(1)", x.wins(1), 1);
        Check.due("turn(1)", x.turn(1), 4);
        Check.due("paste to its own", x.paste(1, 3, 1, 2, 2), 0);
        // 0 0 2 3 3.
        Check.due("wins(1) of twice 3", x.wins(1), 0);
        Check.due("paste to its own, forwards", x.paste(0, 0, 0, 1, 3), 0);
        // 1 1 2 3.
        Check.due("turn(0)", x.turn(0), 3);
        Check.due("paste one to the end", x.paste(0, 1, 0, 3, 1), 0);
        // 1 1 2 1.
        Check.due("turn(0) then", x.turn(0), 0);
    }
}
