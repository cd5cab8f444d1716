/** Promises 19 to 29: rowing, saying again, the next moon, and taking back. */
public final class ActsTest {
    private static final String TEXT = "isles 4 at 5;sea 0 1 oars 3;sea 1 2 oars 4;sea 0 2 oars 9;"
        + "person on 0;person on 1;person on 1 dies 7;person on 3;"
        + "promise 0 to 1 worth 100 said 4;promise 1 to 0 worth 50 said 4;promise 1 to 2 worth 9 said 5;"
        + "promise 2 to 1 worth 9 said 5;shut 1 6;shut 2 7;";

    private ActsTest() {
    }

    public static void main(String[] args) {
        rowing();
        saying();
        takingBack();
        sixtyActs();
        withoutIsles();
        Check.finish("ActsTest");
    }

    private static void rowing() {
        MoonPromises x = Check.told(TEXT);
        Check.due("now()", x.now(), 5);
        Check.due("where(0)", x.where(0), 0);
        Check.due("where(3)", x.where(3), 3);
        Check.due("rowed(0)", x.rowed(0), 0);
        Check.due("sails(0)", x.sails(0), 2 + 4);
        Check.due("sails(3)", x.sails(3), 0);
        Check.due("rows(0, 0): is there", x.rows(0, 0), -5);
        Check.due("rows(0, 3): no sea", x.rows(0, 3), -5);
        Check.due("rows(0, 4)", x.rows(0, 4), -2);
        Check.due("rows(0, -1)", x.rows(0, -1), -2);
        Check.due("rows(4, 0)", x.rows(4, 0), -2);
        Check.due("rows(-1, 0)", x.rows(-1, 0), -2);
        Check.due("rows(0, 1)", x.rows(0, 1), 3);
        Check.due("rows(0, 2): rowed already", x.rows(0, 2), -5);
        Check.due("sails(0): rowed already", x.sails(0), 0);
        Check.due("where(0) then", x.where(0), 1);
        Check.due("rowed(0) then", x.rowed(0), 3);
        Check.due("passes()", x.passes(), 6);
        Check.due("sails(0): its harbour shut", x.sails(0), 0);
        Check.due("rows(0, 2): its harbour shut", x.rows(0, 2), -5);
        Check.due("passes() again", x.passes(), 7);
        Check.due("sails(0): the other's shut", x.sails(0), 1);
        Check.due("rows(0, 2): the other's shut", x.rows(0, 2), -5);
        Check.due("rows(2, 0): dead", x.rows(2, 0), -5);
        Check.due("sails(2): dead", x.sails(2), 0);
        Check.due("rows(0, 0)", x.rows(0, 0), 3);
        Check.due("rowed(0) in all", x.rowed(0), 6);
        Check.due("where(4)", x.where(4), -2);
        Check.due("where(-1)", x.where(-1), -2);
        Check.due("rowed(4)", x.rowed(4), -2);
        Check.due("rowed(-1)", x.rowed(-1), -2);
        Check.due("sails(4)", x.sails(4), -2);
        Check.due("sails(-1)", x.sails(-1), -2);
    }

    private static void saying() {
        MoonPromises x = Check.told(TEXT);
        Check.due("can()", x.can(), 4 + 8);
        Check.due("says(0): not on one isle", x.says(0), -5);
        Check.due("says(4)", x.says(4), -2);
        Check.due("says(-1)", x.says(-1), -2);
        x.rows(0, 1);
        Check.due("can() on one isle", x.can(), 15);
        Check.due("says(0)", x.says(0), 100);
        Check.due("says(0) twice", x.says(0), 100);
        Check.due("says(2)", x.says(2), 9);
        x.passes();
        Check.due("worth(0, 6)", x.worth(0, 6), 50);
        Check.due("can() in moon 6", x.can(), 15);
        x.passes();
        Check.due("can() with a dead one", x.can(), 3);
        Check.due("says(2): the other one dead", x.says(2), -5);
        Check.due("says(3): dead", x.says(3), -5);
        int[] acts = {1, 100, 100, 102, 200, 200};
        for (int i = 0; i < acts.length; i++) {
            Check.due("act(" + i + ")", x.act(i), acts[i]);
        }
        Check.due("act(6)", x.act(6), -1);
        Check.due("act(-1)", x.act(-1), -1);
        Check.due("count(5)", x.count(5), 6);
    }

    private static void takingBack() {
        MoonPromises x = Check.told(TEXT);
        Check.due("undo() of none", x.undo(), -5);
        Check.due("anew() of none", x.anew(), 0);
        x.rows(1, 0);
        x.says(1);
        x.passes();
        x.rows(1, 2);
        Check.due("act(0)", x.act(0), 10);
        Check.due("act(3)", x.act(3), 12);
        Check.due("undo() of rowing", x.undo(), 3);
        Check.due("where(1)", x.where(1), 0);
        Check.due("rowed(1)", x.rowed(1), 3);
        Check.due("sails(1) again", x.sails(1), 4);
        Check.due("undo() of the moon", x.undo(), 2);
        Check.due("now()", x.now(), 5);
        Check.due("worth(1, 5)", x.worth(1, 5), 50);
        Check.due("sails(1): rowed in that moon", x.sails(1), 0);
        Check.due("undo() of saying", x.undo(), 1);
        Check.due("worth(1, 5) not said", x.worth(1, 5), 25);
        x.says(1);
        x.passes();
        Check.due("anew()", x.anew(), 3);
        Check.due("now() anew", x.now(), 5);
        Check.due("where(1) anew", x.where(1), 1);
        Check.due("rowed(1) anew", x.rowed(1), 0);
        Check.due("worth(1, 5) anew", x.worth(1, 5), 25);
        Check.due("count(5) anew", x.count(5), 0);
        Check.due("act(0) anew", x.act(0), -1);
    }

    private static void sixtyActs() {
        MoonPromises x = Check.told(TEXT);
        for (int i = 0; i < 60; i++) {
            Check.due("passes() so often", x.passes(), 6 + i);
        }
        Check.due("passes() behind 60 acts", x.passes(), -5);
        Check.due("rows(0, 1) behind 60 acts", x.rows(0, 1), -5);
        Check.due("says(0) behind 60 acts", x.says(0), -5);
        Check.due("count(5)", x.count(5), 60);
        Check.due("now()", x.now(), 65);
        Check.due("where(0)", x.where(0), 0);
        Check.due("act(59)", x.act(59), 200);
        Check.due("act(60)", x.act(60), -1);
        Check.due("undo()", x.undo(), 59);
        Check.due("rows(0, 1)", x.rows(0, 1), 3);
        Check.due("says(0) behind 60 acts, on one isle", x.says(0), -5);
        Check.due("undo() of it", x.undo(), 59);
        Check.due("anew()", x.anew(), 59);
        MoonPromises y = Check.told("isles 1 at 98;");
        Check.due("passes() to the last", y.passes(), 99);
        Check.due("passes() above it", y.passes(), -5);
        Check.due("now() in the last", y.now(), 99);
    }

    private static void withoutIsles() {
        MoonPromises x = new MoonPromises();
        Check.due("now()", x.now(), -2);
        Check.due("passes()", x.passes(), -2);
        Check.due("undo()", x.undo(), -2);
        Check.due("anew()", x.anew(), -2);
        Check.due("act(0)", x.act(0), -2);
        Check.due("can()", x.can(), -2);
        Check.due("rows(0, 0)", x.rows(0, 0), -2);
        Check.due("says(0)", x.says(0), -2);
    }
}
