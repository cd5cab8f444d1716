/** Promises 1 to 9: a new object, the tape, the text and its faults, what it told. */
public final class TextTest {
    private static final String HEAD = "isles 1 at 5;";
    private static final String TWO = HEAD + "person on 0;person on 0;";

    private TextTest() {
    }

    public static void main(String[] args) {
        aNewObject();
        feedAndEnd();
        soundTexts();
        faults();
        faultyTextsLeaveTheIsles();
        whatWasTold();
        Check.finish("TextTest");
    }

    private static void aNewObject() {
        MoonPromises x = new MoonPromises();
        Check.due("NONE", MoonPromises.NONE, -1);
        for (int what = 0; what <= 9; what++) {
            Check.due("new: count(" + what + ")", x.count(what), 0);
        }
        Check.due("new: now()", x.now(), -2);
        Check.due("new: fault(0)", x.fault(0), 0);
        Check.due("new: fault(1)", x.fault(1), -1);
        Check.due("new: fault(2)", x.fault(2), -1);
        Check.due("new: fault(-1)", x.fault(-1), -1);
    }

    private static void feedAndEnd() {
        MoonPromises x = new MoonPromises();
        Check.due("end(0) of none", x.end(0), 0);
        Check.due("end(1) of none", x.end(1), -1);
        for (int i = 1; i <= 80; i++) {
            Check.due("feed", x.feed(i, -1, 0x7fffffff, 0x80000000, 5), 20 * i);
        }
        Check.due("feed beyond 1600", x.feed(1, 2, 3, 4, 5), -1);
        Check.due("count(7) full", x.count(7), 1600);
        Check.due("end(1601)", x.end(1601), -1);
        Check.due("end(-1)", x.end(-1), -1);
        Check.due("count(7) still", x.count(7), 1600);
        Check.due("end(1581)", x.end(1581), 1581);
        Check.due("feed of 1581", x.feed(1, 2, 3, 4, 5), -1);
        Check.due("end(1580)", x.end(1580), 1580);
        Check.due("feed of 1580", x.feed(1, 2, 3, 4, 5), 1600);
        Check.due("end(0)", x.end(0), 0);
        Check.due("count(7) empty", x.count(7), 0);
        // "isles 1 at 5;" with blanks behind it: the highest byte of each number comes first.
        Check.due("feed of a text", x.feed(0x69736c65, 0x73203120, 0x61742035, 0x3b202020, 0x0a0a0a0a), 20);
        Check.due("isles() of it", x.isles(), 1);
        Check.due("count(0) of it", x.count(0), 1);
        Check.due("count(7) behind isles()", x.count(7), 0);
        Check.due("count(8) of it", x.count(8), 5);
    }

    private static void soundTexts() {
        sound("", 0);
        sound(" \n ", 0);
        sound("isles 1 at 5;", 1);
        sound("isles6at0;", 1);
        sound("isles\n006 at 00000000000000000000000000099 ;\n", 1);
        sound("isles2at9;sea 0 1oars20;sea 1 0oars 1;", 3);
        sound("isles 1 at 9;person on 0 dies 99 tends 100;person on 0 tends 0 dies 0;", 3);
        sound(TWO + "promise 0 to 1 worth 1000000 said 5;promise 1 to 0 worth 1 said 0 on 0 drunk;"
            + "promise 0 to 1 worth 1 said 0 drunk on 1;shut 0 0;shut 0 99;shut 0 0;", 9);
    }

    private static void sound(String text, int lines) {
        MoonPromises x = new MoonPromises();
        Check.due("isles() of " + text, Check.tell(x, text), lines);
        Check.due("fault(0) of " + text, x.fault(0), 0);
        Check.due("fault(1) of " + text, x.fault(1), -1);
        Check.due("count(6) of " + text, x.count(6), lines);
        Check.due("now() of " + text, x.now(), lines == 0 ? -2 : x.count(8));
    }

    private static void faults() {
        // 1: a token that is none.
        faulty("?", 1, 0);
        faulty("  Isles 1 at 5;", 1, 2);
        faulty("\tisles 1 at 5;", 1, 0);
        faulty("isles 1 at 5;\u00e9", 1, 13);
        faulty("isles -1 at 5;", 1, 6);
        faulty("isles 1 at 5.", 1, 12);
        faulty("isles 1 at 5\0;", 1, 12);
        // 1: one that can't stand there; the end.
        faulty("isles 1", 1, 7);
        faulty("isles 1 ", 1, 8);
        faulty("isles 1 at 5", 1, 12);
        faulty(";", 1, 0);
        faulty("5", 1, 0);
        faulty("sea 0 1 oars 3;", 1, 0);
        faulty("person on 0;", 1, 0);
        faulty("islesx 1 at 5;", 1, 0);
        faulty("isle 1 at 5;", 1, 0);
        faulty("isles at 5;", 1, 6);
        faulty("isles 1 5;", 1, 8);
        faulty("isles 1 at;", 1, 10);
        faulty("isles 1 at 5 6;", 1, 13);
        faulty(HEAD + ";", 1, 13);
        faulty(HEAD + "isles 1 at 5;", 1, 13);
        faulty(HEAD + "7", 1, 13);
        faulty(HEAD + "ship 0;", 1, 13);
        faulty(HEAD + "shut 0 5", 1, 21);
        faulty(HEAD + "person on 0 dies 5 dies 6;", 1, 32);
        faulty(HEAD + "person on 0 tends 5 tends 5;", 1, 33);
        faulty(HEAD + "person on 0 tends 5 dies 5 tends 5;", 1, 40);
        faulty(HEAD + "person on 0 drunk;", 1, 25);
        faulty(HEAD + "person on 0 7;", 1, 25);
        faulty(HEAD + "person on 0 dies;", 1, 29);
        faulty(TWO + "promise 0 to 1 worth 1 said 5 drunk drunk;", 1, 73);
        faulty(TWO + "promise 0 to 1 worth 1 said 5;promise 0 to 1 worth 1 said 5 on 0 on 0;", 1, 102);
        faulty(TWO + "promise 0 to 1 worth 1 said 5 dies 5;", 1, 67);
        faulty(TWO + "promise 0 to 1 said 5;", 1, 52);
        // 2: out of bounds, not as said.
        faulty("isles 0 at 5;", 2, 6);
        faulty("isles 7 at 5;", 2, 6);
        faulty("isles 4294967297 at 5;", 2, 6);
        faulty("isles 18446744073709551617 at 5;", 2, 6);
        faulty("isles 1 at 100;", 2, 11);
        faulty(HEAD + "sea 0 0 oars 3;", 2, 19);
        faulty(HEAD + "sea 1 0 oars 3;", 2, 17);
        faulty("isles 2 at 5;sea 0 1 oars 21;", 2, 26);
        faulty("isles 2 at 5;sea 0 1 oars 0;", 2, 26);
        faulty("isles 2 at 5;sea 0 2 oars 3;", 2, 19);
        faulty(HEAD + "person on 1", 2, 23);
        faulty(HEAD + "person on 0 dies 100", 2, 30);
        faulty(HEAD + "person on 0 tends 101", 2, 31);
        faulty(HEAD + "promise 0 to 1 worth 1 said 5;", 2, 21);
        faulty(HEAD + "person on 0;promise 0 to 1", 2, 38);
        faulty(HEAD + "person on 0;promise 0 to 0", 2, 38);
        faulty(HEAD + "person on 0;promise 1 to 0", 2, 33);
        faulty(TWO + "promise 0 to 1 worth 0", 2, 58);
        faulty(TWO + "promise 0 to 1 worth 1000001", 2, 58);
        faulty(TWO + "promise 0 to 1 worth 1 said 6", 2, 65);
        faulty(TWO + "promise 0 to 1 worth 1 said 5 on 0", 2, 70);
        faulty(HEAD + "shut 1", 2, 18);
        faulty(HEAD + "shut 0 100", 2, 20);
        // 3: one too many, at its word.
        faulty(HEAD + "person on 0;".repeat(6) + "person", 3, 85);
        faulty(HEAD + "person on 0;".repeat(6) + "person on 9;", 3, 85);
        faulty(TWO + "promise 0 to 1 worth 1 said 0;".repeat(10) + " promise", 3, 338);
        // The first of two by place.
        faulty(HEAD + "shut 1 ?", 2, 18);
        faulty("isles ? 100;", 1, 6);
    }

    private static void faulty(String text, int fault, int place) {
        MoonPromises x = new MoonPromises();
        Check.due("isles() of " + text, Check.tell(x, text), -4);
        Check.due("fault(0) of " + text, x.fault(0), fault);
        Check.due("fault(1) of " + text, x.fault(1), place);
        Check.due("fault(2) of " + text, x.fault(2), -1);
        Check.due("count(0) of " + text, x.count(0), 0);
    }

    private static void faultyTextsLeaveTheIsles() {
        MoonPromises x = Check.told("isles 2 at 5;person on 1;");
        x.passes();
        Check.due("a faulty text", Check.tell(x, "isles 3 at 9;what"), -4);
        Check.due("now() behind it", x.now(), 6);
        Check.due("count(5) behind it", x.count(5), 1);
        Check.due("where(0) behind it", x.where(0), 1);
        Check.due("count(7) behind it", x.count(7), 0);
        Check.due("a sound text behind it", Check.tell(x, "isles 3 at 9;"), 1);
        Check.due("its fault(0)", x.fault(0), 0);
        Check.due("its fault(1)", x.fault(1), -1);
        Check.due("its now()", x.now(), 9);
        Check.due("its count(5)", x.count(5), 0);
        Check.due("its count(1)", x.count(1), 0);
        Check.due("no text behind it", Check.tell(x, ""), 0);
        Check.due("now() of none", x.now(), -2);
        Check.due("count(0) of none", x.count(0), 0);
        Check.due("count(8) of none", x.count(8), 0);
        Check.due("sea(0, 1) of none", x.sea(0, 1), -2);
    }

    private static void whatWasTold() {
        MoonPromises x = Check.told("isles 3 at 5;sea 0 1 oars 3;sea 1 0 oars 4;sea 1 2 oars 20;"
            + "person on 2 dies 7;person on 0 tends 100;promise 1 to 0 worth 9 said 5;"
            + "promise 0 to 1 worth 1000000 said 3 on 0 drunk;shut 2 0;shut 2 0;shut 1 99;shut 0 50;");
        int[][] people = {{2, 7, 0}, {0, -1, 100}};
        int[][] promises = {{1, 0, 9, 5, 0, -1}, {0, 1, 1000000, 3, 1, 0}};
        for (int p = 0; p < 2; p++) {
            for (int what = 0; what < 3; what++) {
                Check.due("person(" + p + ", " + what + ")", x.person(p, what), people[p][what]);
            }
            for (int what = 0; what < 6; what++) {
                Check.due("promise(" + p + ", " + what + ")", x.promise(p, what), promises[p][what]);
            }
        }
        Check.due("person(2, 0)", x.person(2, 0), -2);
        Check.due("person(-1, 0)", x.person(-1, 0), -2);
        Check.due("person(0, 3)", x.person(0, 3), -2);
        Check.due("person(0, -1)", x.person(0, -1), -2);
        Check.due("promise(2, 0)", x.promise(2, 0), -2);
        Check.due("promise(-1, 0)", x.promise(-1, 0), -2);
        Check.due("promise(0, 6)", x.promise(0, 6), -2);
        Check.due("promise(0, -1)", x.promise(0, -1), -2);
        Check.due("sea(0, 1)", x.sea(0, 1), 4);
        Check.due("sea(1, 0)", x.sea(1, 0), 4);
        Check.due("sea(2, 1)", x.sea(2, 1), 20);
        Check.due("sea(0, 2)", x.sea(0, 2), 0);
        Check.due("sea(0, 0)", x.sea(0, 0), -2);
        Check.due("sea(0, 3)", x.sea(0, 3), -2);
        Check.due("sea(-1, 0)", x.sea(-1, 0), -2);
        Check.due("open(2, 0)", x.open(2, 0), 0);
        Check.due("open(2, 1)", x.open(2, 1), 1);
        Check.due("open(1, 99)", x.open(1, 99), 0);
        Check.due("open(1, 49)", x.open(1, 49), 1);
        Check.due("open(0, 50)", x.open(0, 50), 0);
        Check.due("open(0, 0)", x.open(0, 0), 1);
        Check.due("open(3, 0)", x.open(3, 0), -2);
        Check.due("open(-1, 0)", x.open(-1, 0), -2);
        Check.due("open(0, 100)", x.open(0, 100), -2);
        Check.due("open(0, -1)", x.open(0, -1), -2);
        int[] counts = {3, 2, 2, 2, 3, 0, 12, 0, 5, 0};
        for (int what = 0; what < 10; what++) {
            Check.due("count(" + what + ")", x.count(what), counts[what]);
        }
    }
}
