/** Bounds of term III and promises 19 to 29: each just below, at and just above. */
public final class ActsBoundsTest {
    private static final String ON = "person on 0;";
    private static final String PAIR = "isles 2 at 50;sea 0 1 oars 3;";

    private ActsBoundsTest() {
    }

    public static void main(String[] args) {
        deathOfARower();
        harboursShut();
        onceInAMoon();
        whereAndSeas();
        deathOfTwo();
        onOneIsle();
        sixtyActs();
        sixtyActsOfEachKind();
        theLastMoon();
        takenBack();
        actsTold();
        allThatCanBeSaid();
        allToWhichItSails();
        noneSuch();
        refusedOnes();
        Check.finish("ActsBoundsTest");
    }

    private static void waits(MoonPromises x, int moon) {
        while (x.now() < moon && x.passes() >= 0) {
            continue;
        }
        Check.due("now()", x.now(), moon);
    }

    /** Whether person 0 can row to isle 1 in a moon, by rows() and by sails(). */
    private static void canRow(String text, int moon, int oars) {
        MoonPromises x = Check.told(text);
        waits(x, moon);
        Check.due("sails(0) in " + moon, x.sails(0), oars < 0 ? 0 : 2);
        Check.due("rows(0, 1) in " + moon, x.rows(0, 1), oars);
        Check.due("where(0) in " + moon, x.where(0), oars < 0 ? 0 : 1);
        Check.due("rowed(0) in " + moon, x.rowed(0), Math.max(0, oars));
    }

    private static void deathOfARower() {
        canRow(PAIR + "person on 0 dies 53;", 52, 3);
        canRow(PAIR + "person on 0 dies 53;", 53, -5);
        canRow(PAIR + "person on 0 dies 53;", 54, -5);
        canRow(PAIR + "person on 0 dies 50;", 50, -5);
        canRow(PAIR + "person on 0 dies 51;", 50, 3);
        canRow(PAIR + "person on 0 dies 0;", 50, -5);
        canRow(PAIR + "person on 0 dies 99;", 98, 3);
        canRow(PAIR + "person on 0 dies 99;", 99, -5);
        canRow(PAIR + "person on 0;", 99, 3);
    }

    private static void harboursShut() {
        for (int isle = 0; isle < 2; isle++) {
            String text = PAIR + "person on 0;shut " + isle + " ";
            canRow(text + "52;", 51, 3);
            canRow(text + "52;", 52, -5);
            canRow(text + "52;", 53, 3);
            canRow(text + "50;", 50, -5);
            canRow(text + "49;", 50, 3);
            canRow(text + "99;", 99, -5);
            canRow(text + "99;", 98, 3);
        }
        canRow("isles 3 at 50;sea 0 1 oars 3;person on 0;shut 2 50;", 50, 3);
    }

    private static void onceInAMoon() {
        MoonPromises x = Check.told("isles 3 at 50;sea 0 1 oars 20;sea 1 2 oars 1;" + ON + ON);
        Check.due("rows(0, 1)", x.rows(0, 1), 20);
        Check.refused("rows(0, i): rowed in this moon", x, i -> x.rows(0, i), 2, -5);
        Check.refused("rows(0, i): rowed in this moon", x, i -> x.rows(0, i), 0, -5);
        Check.due("sails(0)", x.sails(0), 0);
        Check.due("rows(1, 1): another one", x.rows(1, 1), 20);
        x.passes();
        Check.due("sails(0) in the next moon", x.sails(0), 1 + 4);
        Check.due("rows(0, 2) in the next moon", x.rows(0, 2), 1);
        Check.due("rowed(0)", x.rowed(0), 21);
        Check.due("rows(0, 1) again", x.rows(0, 1), -5);
        x.undo();
        Check.due("rows(0, 0): taken back", x.rows(0, 0), 20);
        x.undo();
        x.undo();
        Check.due("sails(0): rowed in the moon ahead", x.sails(0), 0);
        x.undo();
        x.undo();
        Check.due("sails(0): nothing done", x.sails(0), 2);
    }

    private static void whereAndSeas() {
        MoonPromises x = Check.told("isles 6 at 5;sea 0 5 oars 7;person on 0;person on 5;");
        Check.edges("rows(0, i)", i -> x.rows(0, i), -1, -2, 0, -5, 1, -5, 4, -5, 6, -2, 5, 7);
        Check.edges("rows(p, 0)", p -> x.rows(p, 0), -1, -2, 2, -2, 6, -2, 1, 7);
        Check.edges("where(p)", p -> x.where(p), -1, -2, 0, 5, 1, 0, 2, -2);
        Check.edges("rowed(p)", p -> x.rowed(p), -1, -2, 0, 7, 1, 7, 2, -2);
        // A sea leads from where it is, not from where it lives.
        x.passes();
        Check.edges("sails(p)", p -> x.sails(p), -1, -2, 0, 1, 1, 32, 2, -2);
    }

    /** Whether promise 0 can be said in a moon, by says() and by can(). */
    private static void canSay(String people, int moon, int worth) {
        MoonPromises x = Check.told("isles 1 at 50;" + people + "promise 0 to 1 worth 9 said 50;");
        waits(x, moon);
        Check.due("can() in " + moon, x.can(), worth < 0 ? 0 : 1);
        Check.due("says(0) in " + moon, x.says(0), worth);
        Check.due("halvings(0, " + moon + ")", x.halvings(0, moon) == 0 ? 1 : 0, worth < 0 && moon > 50 ? 0 : 1);
    }

    private static void deathOfTwo() {
        canSay(ON + ON, 99, 9);
        canSay("person on 0 dies 53;" + ON, 52, 9);
        canSay("person on 0 dies 53;" + ON, 53, -5);
        canSay("person on 0 dies 53;" + ON, 54, -5);
        canSay(ON + "person on 0 dies 53;", 52, 9);
        canSay(ON + "person on 0 dies 53;", 53, -5);
        canSay(ON + "person on 0 dies 53;", 54, -5);
        canSay("person on 0 dies 51;" + ON, 50, 9);
        canSay("person on 0 dies 50;" + ON, 50, -5);
        canSay(ON + ON + "person on 0 dies 0;", 50, 9);
    }

    private static void onOneIsle() {
        MoonPromises x = Check.told("isles 2 at 5;sea 0 1 oars 3;person on 0;person on 1;person on 0;"
            + "promise 0 to 1 worth 9 said 4;promise 1 to 0 worth 8 said 4;promise 0 to 2 worth 7 said 4;");
        Check.due("can()", x.can(), 4);
        Check.refused("says(q): not on one isle", x, q -> x.says(q), 0, -5);
        Check.refused("says(q): not on one isle", x, q -> x.says(q), 1, -5);
        Check.due("says(2)", x.says(2), 7);
        // Where they are, not where they live: his isle is no matter.
        x.rows(0, 1);
        Check.due("can() on the other isle", x.can(), 3);
        Check.due("says(1)", x.says(1), 8);
        Check.due("says(0)", x.says(0), 9);
        Check.refused("says(q): left", x, q -> x.says(q), 2, -5);
        // Its worth then: with those of what it is on.
        MoonPromises y = Check.told("isles 1 at 5;" + ON + ON + "promise 0 to 1 worth 9 said 3;promise 1 to 0 worth 9 said 3 on 0;");
        Check.due("says(1)", y.says(1), 3);
        Check.due("says(0)", y.says(0), 9);
        Check.due("says(1) again", y.says(1), 9);
        Check.due("count(5)", y.count(5), 3);
    }

    private static void sixtyActs() {
        String text = "isles 2 at 5;sea 0 1 oars 3;" + ON + ON + "promise 0 to 1 worth 9 said 5;";
        for (int before = 58; before <= 60; before++) {
            int room = 60 - before;
            MoonPromises says = Check.told(text);
            MoonPromises rows = Check.told(text);
            MoonPromises passes = Check.told(text);
            for (int i = 0; i < before; i++) {
                says.says(0);
                rows.says(0);
                passes.says(0);
            }
            Check.due("says(0) behind " + before, says.says(0), room > 0 ? 9 : -5);
            Check.due("says(0) again behind " + before, says.says(0), room > 1 ? 9 : -5);
            Check.due("rows(0, 1) behind " + before, rows.rows(0, 1), room > 0 ? 3 : -5);
            Check.due("rows(1, 1) behind " + before, rows.rows(1, 1), room > 1 ? 3 : -5);
            Check.due("passes() behind " + before, passes.passes(), room > 0 ? 6 : -5);
            Check.due("passes() again behind " + before, passes.passes(), room > 1 ? 7 : -5);
            Check.due("count(5)", says.count(5), 60);
            Check.due("count(5)", rows.count(5), 60);
            Check.due("count(5)", passes.count(5), 60);
            Check.due("where(1)", rows.where(1), room > 1 ? 1 : 0);
            Check.due("now()", passes.now(), 5 + room);
            Check.due("undo()", says.undo(), 59);
            Check.due("says(0) behind undo()", says.says(0), 9);
            Check.due("says(0) behind 60", says.says(0), -5);
            Check.due("anew()", says.anew(), 60);
            Check.due("says(0) anew", says.says(0), 9);
        }
    }

    private static void sixtyActsOfEachKind() {
        MoonPromises x = Check.told("isles 2 at 5;sea 0 1 oars 3;" + ON + ON + "promise 0 to 1 worth 9 said 5;");
        for (int i = 0; i < 20; i++) {
            x.rows(0, 1 - x.where(0));
            x.rows(1, 1 - x.where(1));
            x.passes();
        }
        Check.due("count(5)", x.count(5), 60);
        Check.refused("rows(p, 1): 60 acts", x, p -> x.rows(p, 1), 0, -5);
        Check.refused("says(q): 60 acts", x, q -> x.says(q), 0, -5);
        Check.refused("passes(): 60 acts", x, n -> x.passes(), 0, -5);
        Check.edges("rows(p, 1): none such comes first", p -> x.rows(p, 1), -1, -2, 2, -2);
        Check.edges("says(q): none such comes first", q -> x.says(q), -1, -2, 1, -2);
        // By term III alone it can: the acts are no matter to who asks what can be.
        Check.due("can()", x.can(), 1);
        Check.due("sails(0)", x.sails(0), 2);
    }

    private static void theLastMoon() {
        for (int told = 97; told <= 99; told++) {
            MoonPromises x = Check.told("isles 1 at " + told + ";");
            for (int moon = told + 1; moon <= 99; moon++) {
                Check.due("passes()", x.passes(), moon);
            }
            Check.refused("passes(): above 99", x, n -> x.passes(), 0, -5);
            Check.due("now()", x.now(), 99);
            Check.due("count(8): the moon told", x.count(8), told);
        }
    }

    private static void takenBack() {
        MoonPromises x = Check.told(PAIR + ON + ON + "promise 0 to 1 worth 9 said 49;");
        Check.refused("undo(): there is none", x, n -> x.undo(), 0, -5);
        Check.due("anew(): there is none", x.anew(), 0);
        String[] states = new String[5];
        states[0] = Check.state(x);
        x.says(0);
        states[1] = Check.state(x);
        x.passes();
        states[2] = Check.state(x);
        x.rows(0, 1);
        states[3] = Check.state(x);
        x.rows(1, 1);
        states[4] = Check.state(x);
        for (int left = 3; left >= 0; left--) {
            Check.due("undo()", x.undo(), left);
            Check.due("undo() to " + left, Check.state(x).equals(states[left]) ? 1 : 0, 1);
        }
        Check.due("undo() of none", x.undo(), -5);
        for (int acts = 0; acts <= 3; acts++) {
            for (int i = 0; i < acts; i++) {
                x.passes();
            }
            Check.due("anew() of " + acts, x.anew(), acts);
            Check.due("anew() to none", Check.state(x).equals(states[0]) ? 1 : 0, 1);
        }
        // What came without an act is not taken back with them.
        x.tends(0, 7);
        x.passes();
        x.tends(1, 8);
        x.anew();
        Check.due("person(0, 2)", x.person(0, 2), 7);
        Check.due("person(1, 2)", x.person(1, 2), 8);
    }

    private static void actsTold() {
        MoonPromises x = Check.told("isles 6 at 5;sea 0 5 oars 3;sea 0 1 oars 3;" + ON.repeat(6)
            + "promise 0 to 5 worth 9 said 5;".repeat(10));
        Check.edges("act(i) of none", i -> x.act(i), -1, -1, 0, -1, 1, -1);
        x.rows(5, 5);
        Check.edges("act(i) of one", i -> x.act(i), -1, -1, 0, 55, 1, -1);
        x.passes();
        x.rows(5, 0);
        x.says(9);
        x.says(0);
        x.rows(0, 1);
        Check.edges("act(i) of six", i -> x.act(i), -1, -1, 0, 55, 1, 200, 2, 50, 3, 109, 4, 100, 5, 1, 6, -1, 59, -1, 60, -1);
        x.undo();
        Check.edges("act(i) of five", i -> x.act(i), 4, 100, 5, -1);
    }

    private static void allThatCanBeSaid() {
        for (int promises = 0; promises <= 10; promises++) {
            MoonPromises x = Check.told("isles 1 at 5;" + ON + ON + "promise 0 to 1 worth 9 said 5;".repeat(promises));
            Check.due("can() of " + promises, x.can(), (1 << promises) - 1);
        }
    }

    private static void allToWhichItSails() {
        for (int isles = 1; isles <= 6; isles++) {
            StringBuilder text = new StringBuilder("isles " + isles + " at 5;" + ON);
            for (int isle = 1; isle < isles; isle++) {
                text.append("sea 0 ").append(isle).append(" oars 1;");
            }
            Check.due("sails(0) of " + isles, Check.told(text.toString()).sails(0), (1 << isles) - 2);
        }
    }

    private static void noneSuch() {
        MoonPromises none = new MoonPromises();
        for (int round = 0; round < 2; round++) {
            Check.due("now() without isles", none.now(), -2);
            Check.due("where(0) without isles", none.where(0), -2);
            Check.due("rowed(0) without isles", none.rowed(0), -2);
            Check.due("rows(0, 0) without isles", none.rows(0, 0), -2);
            Check.due("says(0) without isles", none.says(0), -2);
            Check.due("passes() without isles", none.passes(), -2);
            Check.due("undo() without isles", none.undo(), -2);
            Check.due("anew() without isles", none.anew(), -2);
            Check.edges("act(i) without isles", i -> none.act(i), -1, -2, 0, -2, 1, -2);
            Check.due("can() without isles", none.can(), -2);
            Check.due("sails(0) without isles", none.sails(0), -2);
            // The same again behind isles that are none any more.
            Check.tell(none, PAIR + ON + ON + "promise 0 to 1 worth 9 said 49;");
            none.says(0);
            Check.tell(none, "");
        }
        MoonPromises bare = Check.told("isles 1 at 0;");
        Check.due("now() of bare isles", bare.now(), 0);
        Check.due("undo() of bare isles", bare.undo(), -5);
        Check.due("anew() of bare isles", bare.anew(), 0);
        Check.due("act(0) of bare isles", bare.act(0), -1);
        Check.due("can() of bare isles", bare.can(), 0);
        Check.due("passes() of bare isles", bare.passes(), 1);
    }

    private static void refusedOnes() {
        MoonPromises x = Check.told("isles 3 at 50;sea 0 1 oars 3;person on 0 dies 51;person on 1;person on 0;"
            + "promise 0 to 1 worth 9 said 49;promise 0 to 2 worth 9 said 49;shut 1 50;");
        Check.refused("rows(0, i)", x, i -> x.rows(0, i), -1, -2);
        Check.refused("rows(0, i): is there", x, i -> x.rows(0, i), 0, -5);
        Check.refused("rows(0, i): shut", x, i -> x.rows(0, i), 1, -5);
        Check.refused("rows(0, i): no sea", x, i -> x.rows(0, i), 2, -5);
        Check.refused("rows(0, i)", x, i -> x.rows(0, i), 3, -2);
        Check.refused("says(q): not on one isle", x, q -> x.says(q), 0, -5);
        Check.refused("says(q)", x, q -> x.says(q), 2, -2);
        x.passes();
        Check.refused("rows(0, i): dead", x, i -> x.rows(0, i), 1, -5);
        Check.refused("says(q): dead", x, q -> x.says(q), 1, -5);
    }
}
