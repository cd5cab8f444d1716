/** Bounds of term I and promises 1 to 9: each just below, at and just above. */
public final class TextBoundsTest {
    private static final String HEAD = "isles 1 at 5;";
    private static final String SIX = "isles 6 at 5;";
    private static final String PERSON = "person on 0;";
    private static final String TWO = HEAD + PERSON + PERSON;
    private static final String OWES = "promise 0 to 1 worth 1 said 5;";

    private TextBoundsTest() {
    }

    public static void main(String[] args) {
        islesAndMoon();
        seas();
        people();
        promises();
        promisesUponOthers();
        harbours();
        numbersOfPeopleAndPromises();
        marks();
        everyByte();
        everyWord();
        firstFaults();
        theEnd();
        aNewObject();
        feeding();
        cutting();
        islesInPlaceOfOthers();
        aFaultLeavesAll();
        faultsAsked();
        askedOfThePeople();
        askedOfThePromises();
        askedOfSeasAndHarbours();
        Check.finish("TextBoundsTest");
    }

    private static void sound(String text, int lines) {
        MoonPromises x = new MoonPromises();
        Check.due("isles() of " + text, Check.tell(x, text), lines);
        Check.due("fault(0) of " + text, x.fault(0), 0);
        Check.due("fault(1) of " + text, x.fault(1), -1);
    }

    private static void faulty(String text, int fault, int place) {
        MoonPromises x = new MoonPromises();
        Check.due("isles() of " + text, Check.tell(x, text), -4);
        Check.due("fault(0) of " + text, x.fault(0), fault);
        Check.due("fault(1) of " + text, x.fault(1), place);
    }

    /** A number within its bounds: the text goes on; out of them: fault 2 at its place. */
    private static void number(String ahead, String behind, int lines, int least, int most) {
        sound(ahead + least + behind, lines);
        sound(ahead + most + behind, lines);
        faulty(ahead + (most + 1) + behind, 2, ahead.length());
        faulty(ahead + 4294967296L + behind, 2, ahead.length());
        faulty(ahead + "-1" + behind, 1, ahead.length());
        if (least > 0) {
            faulty(ahead + (least - 1) + behind, 2, ahead.length());
        }
    }

    private static void islesAndMoon() {
        number("isles ", " at 5;", 1, 1, 6);
        number("isles 1 at ", ";", 1, 0, 99);
        for (int isles = 1; isles <= 6; isles++) {
            MoonPromises x = Check.told("isles " + isles + " at 0;");
            Check.due("count(0)", x.count(0), isles);
            Check.due("now()", x.now(), 0);
        }
        Check.due("now() of the last", Check.told("isles 1 at 99;").now(), 99);
    }

    private static void seas() {
        number(SIX + "sea 0 1 oars ", ";", 2, 1, 20);
        for (int isles = 2; isles <= 6; isles++) {
            String head = "isles " + isles + " at 5;sea ";
            sound(head + (isles - 1) + " 0 oars 3;", 2);
            sound(head + "0 " + (isles - 1) + " oars 3;", 2);
            faulty(head + isles + " 0 oars 3;", 2, 17);
            faulty(head + "0 " + isles + " oars 3;", 2, 19);
            faulty(head + (isles - 1) + " " + (isles - 1) + " oars 3;", 2, 19);
        }
        faulty(HEAD + "sea 0 0 oars 3;", 2, 19);
        faulty(HEAD + "sea 0 1 oars 3;", 2, 19);
        faulty(HEAD + "sea 1 0 oars 3;", 2, 17);
        // Either way, and a later one strikes the one ahead of it, told either way.
        MoonPromises x = Check.told(SIX + "sea 0 5 oars 20;sea 5 0 oars 1;sea 2 1 oars 1;sea 2 1 oars 20;");
        Check.due("sea(0, 5)", x.sea(0, 5), 1);
        Check.due("sea(5, 0)", x.sea(5, 0), 1);
        Check.due("sea(1, 2)", x.sea(1, 2), 20);
        Check.due("sea(2, 1)", x.sea(2, 1), 20);
        Check.due("count(3)", x.count(3), 2);
        Check.due("count(6)", x.count(6), 5);
    }

    private static void people() {
        number(SIX + "person on ", ";", 2, 0, 5);
        number(HEAD + "person on ", ";", 2, 0, 0);
        number(HEAD + "person on 0 dies ", ";", 2, 0, 99);
        number(HEAD + "person on 0 tends ", ";", 2, 0, 100);
        number(HEAD + "person on 0 tends 5 dies ", ";", 2, 0, 99);
        number(HEAD + "person on 0 dies 5 tends ", ";", 2, 0, 100);
        MoonPromises x = Check.told(SIX + "person on 5;person on 0 dies 0 tends 100;person on 1 tends 0 dies 99;");
        Check.due("person(0, 1): dies without", x.person(0, 1), -1);
        Check.due("person(0, 2): tends without", x.person(0, 2), 0);
        Check.due("person(1, 1)", x.person(1, 1), 0);
        Check.due("person(1, 2)", x.person(1, 2), 100);
        Check.due("person(2, 1)", x.person(2, 1), 99);
        Check.due("person(2, 2)", x.person(2, 2), 0);
    }

    private static void promises() {
        number(TWO + "promise 0 to 1 worth ", " said 5;", 4, 1, 1000000);
        number(TWO + "promise 0 to 1 worth 1 said ", ";", 4, 0, 5);
        number("isles 1 at 0;" + PERSON + PERSON + "promise 0 to 1 worth 1 said ", ";", 4, 0, 0);
        number("isles 1 at 99;" + PERSON + PERSON + "promise 0 to 1 worth 1 said ", ";", 4, 0, 99);
        // PEOPLE told ahead, unlike ones.
        for (int people = 1; people <= 6; people++) {
            String ahead = HEAD + PERSON.repeat(people);
            int last = people - 1;
            faulty(ahead + "promise " + people + " to 0 worth 1 said 5;", 2, ahead.length() + 8);
            faulty(ahead + "promise 0 to " + people + " worth 1 said 5;", 2, ahead.length() + 13);
            faulty(ahead + "promise " + last + " to " + last + " worth 1 said 5;", 2, ahead.length() + 13);
            if (people > 1) {
                sound(ahead + "promise 0 to " + last + " worth 1 said 5;", people + 2);
                sound(ahead + "promise " + last + " to 0 worth 1 said 5;", people + 2);
            }
        }
        faulty(HEAD + "promise 0 to 1 worth 1 said 5;" + PERSON + PERSON, 2, 21);
        faulty(HEAD + PERSON + "promise 0 to 1 worth 1 said 5;" + PERSON, 2, 38);
    }

    private static void promisesUponOthers() {
        for (int ahead = 0; ahead <= 9; ahead++) {
            String text = TWO + OWES.repeat(ahead) + "promise 0 to 1 worth 1 said 5 on ";
            faulty(text + ahead + ";", 2, text.length());
            faulty(text + (ahead + 1) + ";", 2, text.length());
            if (ahead > 0) {
                sound(text + (ahead - 1) + ";", 4 + ahead);
                sound(text + "0;", 4 + ahead);
            }
        }
    }

    private static void harbours() {
        number(SIX + "shut ", " 5;", 2, 0, 5);
        number(HEAD + "shut ", " 5;", 2, 0, 0);
        number(HEAD + "shut 0 ", ";", 2, 0, 99);
        MoonPromises x = Check.told(SIX + "shut 5 50;shut 5 50;shut 0 49;");
        Check.edges("open(5, m)", m -> x.open(5, m), 49, 1, 50, 0, 51, 1);
        Check.edges("open(0, m)", m -> x.open(0, m), 48, 1, 49, 0, 50, 1);
        Check.edges("open(i, 50)", i -> x.open(i, 50), 4, 1, 5, 0, 6, -2);
        Check.due("count(4): one twice is one", x.count(4), 2);
    }

    private static void numbersOfPeopleAndPromises() {
        sound(HEAD + PERSON.repeat(6), 7);
        faulty(HEAD + PERSON.repeat(7), 3, 85);
        faulty(HEAD + PERSON.repeat(6) + "person?", 3, 85);
        sound(TWO + OWES.repeat(10), 13);
        faulty(TWO + OWES.repeat(11), 3, 337);
        faulty(TWO + OWES.repeat(10) + "promise 0 to 9", 3, 337);
        Check.due("count(1)", Check.told(HEAD + PERSON.repeat(6)).count(1), 6);
        Check.due("count(2)", Check.told(TWO + OWES.repeat(10)).count(2), 10);
        // Numbered as they stand.
        MoonPromises x = Check.told(SIX + "person on 5;person on 4;promise 0 to 1 worth 7 said 5;person on 3;"
            + "promise 1 to 2 worth 8 said 5;");
        Check.edges("person(p, 0)", p -> x.person(p, 0), 0, 5, 1, 4, 2, 3, 3, -2);
        Check.edges("promise(p, 2)", p -> x.promise(p, 2), 0, 7, 1, 8, 2, -2);
    }

    private static void marks() {
        String person = HEAD + "person on 0";
        String[] orders = {"", " dies 5", " tends 6", " dies 5 tends 6", " tends 6 dies 5"};
        for (String order : orders) {
            sound(person + order + ";", 2);
        }
        faulty(person + " dies 5 dies 5;", 1, 32);
        faulty(person + " tends 6 tends 6;", 1, 33);
        faulty(person + " dies 5 tends 6 dies 5;", 1, 40);
        faulty(person + " dies 5 tends 6 tends 6;", 1, 40);
        faulty(person + " tends 0 tends 0;", 1, 33);
        String owes = TWO + OWES + "promise 0 to 1 worth 1 said 5";
        String[] others = {"", " drunk", " on 0", " on 0 drunk", " drunk on 0"};
        for (String other : others) {
            sound(owes + other + ";", 5);
        }
        faulty(owes + " drunk drunk;", 1, 103);
        faulty(owes + " on 0 on 0;", 1, 102);
        faulty(owes + " drunk on 0 drunk;", 1, 108);
        faulty(owes + " on 0 drunk on 0;", 1, 108);
        faulty(owes + " dies 5;", 1, 97);
        faulty(person + " on 0;", 1, 25);
        faulty(HEAD + "shut 0 5 drunk;", 1, 22);
    }

    /** Which bytes are blanks, letters, digits and signs: by where the fault is. */
    private static void everyByte() {
        String ahead = HEAD + "person on 0 dies";
        for (int b = 0; b < 256; b++) {
            boolean blank = b == 32 || b == 10;
            boolean letter = b >= 'a' && b <= 'z';
            boolean digit = b >= '0' && b <= '9';
            String text = ahead + (char) b + "5;";
            if (blank || digit) {
                sound(text, 2);
            } else {
                faulty(text, 1, letter ? 25 : 29);
            }
            String behind = HEAD + (char) b;
            if (blank) {
                sound(behind, 1);
            } else {
                faulty(behind, 1, 13);
            }
            String within = "isles 1 at 5" + (char) b + ";";
            if (blank || digit) {
                sound(within, 1);
            } else {
                faulty(within, 1, b == ';' ? 13 : 12);
            }
        }
        // The longest tokens.
        sound("isles1at5;person on0dies5tends6;shut0 5;", 3);
        faulty("isles 1at 5;personon 0;", 1, 12);
        faulty("isles 6 at 5;shut 05;", 1, 20);
    }

    /** No word stands for another one: with a letter changed, left out or put in it can't stand there. */
    private static void everyWord() {
        String[] tokens = ("isles 2 at 5 ; sea 0 1 oars 3 ; person on 0 dies 9 tends 8 ; person on 1 ; shut 1 7 ; "
            + "promise 0 to 1 worth 6 said 5 ; promise 1 to 0 worth 6 said 4 on 0 drunk ;").split(" ");
        sound(String.join(" ", tokens), 7);
        for (int i = 0; i < tokens.length; i++) {
            String word = tokens[i];
            int place = String.join(" ", java.util.Arrays.copyOf(tokens, i)).length() + (i > 0 ? 1 : 0);
            for (int k = 0; k < word.length() && Character.isLetter(word.charAt(0)); k++) {
                String ahead = word.substring(0, k);
                String behind = word.substring(k + 1);
                char other = word.charAt(k) == 'z' ? 'a' : (char) (word.charAt(k) + 1);
                changed(tokens, i, ahead + other + behind, place);
                changed(tokens, i, ahead + "x" + word.substring(k), place);
                changed(tokens, i, word + word.charAt(k), place);
                changed(tokens, i, word.toUpperCase(java.util.Locale.ROOT), place);
                changed(tokens, i, ahead + behind, place);
            }
        }
    }

    private static void changed(String[] tokens, int i, String word, int place) {
        String[] others = tokens.clone();
        others[i] = word;
        faulty(String.join(" ", others), 1, place);
    }

    private static void firstFaults() {
        faulty("isles 7 at 100;", 2, 6);
        faulty("isles 6 at 100 ?", 2, 11);
        faulty("isles 6 at ? 100", 1, 11);
        // A number that can't stand there is fault 1, out of all bounds as it is.
        faulty("isles 6 1000000;", 1, 8);
        faulty(HEAD + "1000000;", 1, 13);
        faulty(HEAD + "shut 0 5 1000000;", 1, 22);
        // A word that can't stand there is fault 1, one too many as it is.
        faulty(HEAD + PERSON.repeat(5) + "person on 0 person on 0;", 1, 85);
        faulty(TWO + OWES.repeat(9) + "promise 0 to 1 worth 1 said 5 promise;", 1, 337);
        faulty(HEAD + "isles 7 at 100;", 1, 13);
        faulty(HEAD + PERSON.repeat(6) + "isles 1 at 5;", 1, 85);
        for (String word : new String[] {"sea", "person", "promise", "shut", "at", "isle", "isless"}) {
            faulty(word + " 1 at 5;", 1, 0);
        }
    }

    private static void theEnd() {
        faulty("isles 1 at 5", 1, 12);
        faulty("isles 1 at 5  \n", 1, 15);
        faulty("isles", 1, 5);
        faulty(HEAD + "person", 1, 19);
        faulty(HEAD + "person on 0 dies", 1, 29);
        sound("", 0);
        sound("\n", 0);
        // The tape full to its last byte.
        String shuts = "shut0 0;".repeat(198);
        sound("isles1at0;" + shuts + " ".repeat(6), 199);
        sound("isles1at0;      " + shuts, 199);
        faulty("isles1at0;      " + shuts.substring(0, 1583) + " ", 1, 1600);
        faulty("isles1at0;      " + shuts.substring(0, 1583) + "9", 1, 1600);
        faulty("isles1at0;      " + shuts.substring(0, 1583) + "?", 1, 1599);
        faulty("isles1at0;" + shuts + "     9", 1, 1599);
        faulty(" ".repeat(1599) + "s", 1, 1599);
        faulty(" ".repeat(1595) + "isles", 1, 1600);
        sound(" ".repeat(1600), 0);
    }

    private static void aNewObject() {
        MoonPromises x = new MoonPromises();
        Check.edges("count(what) anew", w -> x.count(w), -1, -1, 0, 0, 1, 0, 2, 0, 3, 0, 4, 0, 5, 0, 6, 0, 7, 0, 8, 0, 9,
            0, 10, -1);
        Check.due("person(0, 0) anew", x.person(0, 0), -2);
        Check.due("promise(0, 0) anew", x.promise(0, 0), -2);
        Check.due("sea(0, 1) anew", x.sea(0, 1), -2);
        Check.due("open(0, 0) anew", x.open(0, 0), -2);
        Check.due("isles() anew", x.isles(), 0);
    }

    private static void feeding() {
        MoonPromises x = new MoonPromises();
        for (int i = 1; i <= 79; i++) {
            Check.due("feed", x.feed(0x20202020, 0x20202020, 0x20202020, 0x20202020, 0x20202020), 20 * i);
        }
        Check.due("feed to 1600", x.feed(0x20202020, 0x20202020, 0x20202020, 0x20202020, 0x2020203f), 1600);
        Check.due("feed of 1600", x.feed(-1, -1, -1, -1, -1), -1);
        for (int length = 1599; length >= 1581; length--) {
            x.end(length);
            Check.due("feed of " + length, x.feed(-1, -1, -1, -1, -1), -1);
            Check.due("count(7): none come", x.count(7), length);
        }
        Check.due("end(1580)", x.end(1580), 1580);
        Check.due("feed of 1580", x.feed(0x20202020, 0x20202020, 0x20202020, 0x20202020, 0x0a0a0a3f), 1600);
        Check.due("isles() of it", x.isles(), -4);
        Check.due("fault(1): the last byte", x.fault(1), 1599);
        // None come: what is refused is not there when the tape is read.
        String text = HEAD + " ".repeat(1577);
        tellUncut(x, text);
        Check.due("feed of 1590", x.feed(-1, -1, -1, -1, -1), -1);
        Check.due("isles() of 1590", x.isles(), 1);
        // Four bytes of each number, the highest first: a fault tells which byte it is.
        for (int at = 0; at < 20; at++) {
            int[] five = {0x20202020, 0x20202020, 0x20202020, 0x20202020, 0x20202020};
            five[at / 4] ^= 0xdf << 24 - at % 4 * 8;
            MoonPromises y = new MoonPromises();
            Check.due("feed of 20", y.feed(five[0], five[1], five[2], five[3], five[4]), 20);
            Check.due("isles() of it", y.isles(), -4);
            Check.due("fault(1) of it", y.fault(1), at);
        }
    }

    private static void tellUncut(MoonPromises x, String text) {
        byte[] padded = java.util.Arrays.copyOf(text.getBytes(java.nio.charset.StandardCharsets.ISO_8859_1), 1600);
        for (int i = 0; i < 1600; i += 20) {
            x.feed(Check.four(padded, i), Check.four(padded, i + 4), Check.four(padded, i + 8),
                Check.four(padded, i + 12), Check.four(padded, i + 16));
        }
        x.end(text.length());
    }

    private static void cutting() {
        MoonPromises x = new MoonPromises();
        Check.edges("end(n) of none", n -> x.end(n), -1, -1, 0, 0, 1, -1);
        x.feed(0x69736c65, 0x73203120, 0x61742035, 0x3b3b3b3b, 0x3b3b3b3b);
        Check.edges("end(n) of 20", n -> x.end(n), -1, -1, 21, -1, Integer.MIN_VALUE, -1, Integer.MAX_VALUE, -1, 20, 20);
        Check.due("count(7): nothing happens", x.count(7), 20);
        Check.edges("end(n) of 20", n -> x.end(n), 19, 19, 20, -1, 19, 19, 13, 13, 14, -1);
        Check.due("isles(): the first 13 bytes alone", x.isles(), 1);
        // Bytes that were cut off do not come back with those that come behind.
        x.feed(0x69736c65, 0x73203120, 0x61742035, 0x3b3b3b3b, 0x3b3b3b3b);
        x.end(12);
        Check.due("feed behind 12", x.feed(0x20202020, 0x20202020, 0x20202020, 0x20202020, 0x2020203b), 32);
        Check.due("isles() of it", x.isles(), 1);
    }

    private static void islesInPlaceOfOthers() {
        MoonPromises x = Check.told(SIX + "sea 0 1 oars 3;shut 0 5;person on 0 dies 9 tends 7;person on 1;"
            + "promise 0 to 1 worth 5 said 4 drunk;promise 1 to 0 worth 5 said 4 on 0;");
        x.passes();
        x.passes();
        Check.slot(x, 2, 1, 3);
        x.image(1);
        Check.due("isles()", Check.tell(x, "isles 2 at 9;person on 1;person on 1;promise 1 to 0 worth 8 said 9;"), 4);
        int[] counts = {2, 2, 1, 0, 0, 0, 4, 0, 9, 1};
        for (int what = 0; what < 10; what++) {
            Check.due("count(" + what + ")", x.count(what), counts[what]);
        }
        Check.due("person(0, 1)", x.person(0, 1), -1);
        Check.due("person(0, 2)", x.person(0, 2), 0);
        Check.due("promise(0, 4)", x.promise(0, 4), 0);
        Check.due("promise(0, 5)", x.promise(0, 5), -1);
        Check.due("promise(1, 0)", x.promise(1, 0), -2);
        Check.due("now(): the moon told", x.now(), 9);
        Check.due("undo(): nothing done", x.undo(), -5);
        Check.due("open(0, 5)", x.open(0, 5), 1);
        Check.due("isles() of no lines", x.isles(), 0);
        Check.edges("count(what) then", w -> x.count(w), 0, 0, 1, 0, 2, 0, 3, 0, 4, 0, 5, 0, 6, 0, 7, 0, 8, 0, 9, 1);
        Check.due("now() then", x.now(), -2);
        Check.due("person(0, 0) then", x.person(0, 0), -2);
        Check.due("wins(2): slots stay", x.wins(2), 1);
        Check.due("back(1): images stay", x.back(1), 0);
        Check.due("now() back", x.now(), 7);
        Check.due("count(6) back", x.count(6), 7);
    }

    private static void aFaultLeavesAll() {
        MoonPromises x = Check.told(SIX + "sea 0 1 oars 3;shut 0 9;person on 0 dies 9 tends 7;person on 1;"
            + "promise 0 to 1 worth 5 said 4 drunk;promise 1 to 0 worth 5 said 4 on 0;");
        x.image(0);
        x.rows(0, 1);
        x.says(1);
        x.passes();
        Check.slot(x, 2, 1, 3);
        String before = Check.state(x);
        for (String text : new String[] {"?", "isles 7", "isles 2 at 9;person on 1;what", "isles 1 at 1;" + PERSON.repeat(7)}) {
            Check.due("isles() of " + text, Check.tell(x, text), -4);
            Check.due("count(7): the tape is empty", x.count(7), 0);
            // The fault itself is all that is told anew.
            MoonPromises none = new MoonPromises();
            Check.tell(none, text);
            String fault = none.fault(0) + " " + none.fault(1);
            Check.due("all stays", Check.state(x).replaceFirst(fault, "0 -1").equals(before) ? 1 : 0, 1);
        }
        Check.due("undo()", x.undo(), 2);
        Check.due("back(0)", x.back(0), 0);
        Check.due("count(5)", x.count(5), 0);
    }

    private static void faultsAsked() {
        MoonPromises x = new MoonPromises();
        Check.edges("fault(what) ahead of any", w -> x.fault(w), -1, -1, 0, 0, 1, -1, 2, -1);
        Check.tell(x, "isles 7");
        Check.edges("fault(what) of 2", w -> x.fault(w), -1, -1, 0, 2, 1, 6, 2, -1);
        Check.tell(x, "?");
        Check.edges("fault(what) of 1", w -> x.fault(w), -1, -1, 0, 1, 1, 0, 2, -1);
        x.image(0);
        Check.tell(x, HEAD);
        Check.edges("fault(what) without", w -> x.fault(w), -1, -1, 0, 0, 1, -1, 2, -1);
        Check.tell(x, HEAD + PERSON.repeat(7));
        Check.edges("fault(what) of 3", w -> x.fault(w), -1, -1, 0, 3, 1, 85, 2, -1);
        x.back(0);
        x.feed(1, 2, 3, 4, 5);
        Check.edges("fault(what): the latest isles()", w -> x.fault(w), 0, 3, 1, 85);
        x.end(0);
        x.isles();
        Check.edges("fault(what) of no lines", w -> x.fault(w), 0, 0, 1, -1);
    }

    private static void askedOfThePeople() {
        for (int people = 0; people <= 6; people++) {
            MoonPromises x = Check.told(HEAD + "person on 0 dies 7 tends 9;".repeat(people));
            int last = people - 1;
            for (int what = 0; what < 3; what++) {
                int[] told = {0, 7, 9};
                int w = what;
                Check.edges("person(p, " + what + ")", p -> x.person(p, w), -1, -2, people, -2, 6, -2, 100, -2);
                Check.due("person(last, " + what + ")", x.person(last, what), people == 0 ? -2 : told[what]);
            }
            Check.edges("person(last, what)", w -> x.person(last, w), -1, -2, 3, -2);
        }
    }

    private static void askedOfThePromises() {
        for (int promises = 0; promises <= 10; promises++) {
            MoonPromises x = Check.told(TWO + "promise 1 to 0 worth 7 said 3 drunk;".repeat(promises));
            int last = promises - 1;
            int[] told = {1, 0, 7, 3, 1, -1};
            for (int what = 0; what < 6; what++) {
                int w = what;
                Check.edges("promise(p, " + what + ")", p -> x.promise(p, w), -1, -2, promises, -2, 10, -2, 100, -2);
                Check.due("promise(last, " + what + ")", x.promise(last, what), promises == 0 ? -2 : told[what]);
            }
            Check.edges("promise(last, what)", w -> x.promise(last, w), -1, -2, 6, -2);
        }
    }

    private static void askedOfSeasAndHarbours() {
        for (int isles = 1; isles <= 6; isles++) {
            MoonPromises x = Check.told("isles " + isles + " at 5;shut 0 0;shut 0 99;");
            Check.edges("sea(i, 0)", i -> x.sea(i, 0), -1, -2, 0, -2, 1, isles > 1 ? 0 : -2, isles - 1, isles > 1 ? 0 : -2,
                isles, -2, 6, -2);
            Check.edges("sea(0, i)", i -> x.sea(0, i), -1, -2, 0, -2, 1, isles > 1 ? 0 : -2, isles - 1, isles > 1 ? 0 : -2,
                isles, -2, 6, -2);
            Check.edges("open(0, m)", m -> x.open(0, m), -1, -2, 0, 0, 1, 1, 98, 1, 99, 0, 100, -2);
            Check.edges("open(i, 5)", i -> x.open(i, 5), -1, -2, 0, 1, isles - 1, 1, isles, -2, 6, -2);
        }
    }
}
