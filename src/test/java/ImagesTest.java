import java.util.Random;

/** Isles told, acts, changes and images in drawn orders, held against Model at every step. */
public final class ImagesTest {
    private final Random random;
    private final MoonPromises x = new MoonPromises();
    private final Model[] images = new Model[3];
    private final boolean[] keptEmpty = new boolean[3];
    private final Model model;
    /** Whether there are isles now. */
    private boolean told = false;
    private final int[] lines = new int[4];
    private String at;

    private ImagesTest(int seed) {
        random = new Random(seed);
        model = new Model(random, 4, 40);
    }

    public static void main(String[] args) {
        for (int run = 0; run < 500; run++) {
            ImagesTest one = new ImagesTest(run);
            for (int step = 0; step < 60; step++) {
                one.at = "run " + run + ", step " + step + ": ";
                one.step();
                one.hold(run);
            }
        }
        Check.finish("ImagesTest");
    }

    private void step() {
        switch (random.nextInt(24)) {
            case 0 -> tell();
            case 1 -> keep();
            case 2, 3 -> back();
            case 4, 5 -> promise();
            case 6, 7 -> shut();
            case 8, 9 -> tend();
            case 10, 11 -> anew();
            case 12 -> undo();
            case 13, 14 -> pass();
            case 15, 16, 17 -> say();
            default -> row();
        }
    }

    /** Isles in place of others, none, or a fault by which all stays. */
    private void tell() {
        int kind = random.nextInt(4);
        if (kind == 0) {
            Check.due(at + "isles() of none", Check.tell(x, random.nextBoolean() ? "" : " \n "), 0);
            told = false;
            lines[3] = 0;
        } else if (kind == 1) {
            Check.due(at + "isles() of a fault", Check.tell(x, "isles 2 at 50;person on 1;person on 2;"), -4);
        } else {
            model.copyFrom(new Model(random, 4, kind == 2 ? 40 : 99));
            String text = model.text();
            lines[3] = text.split(";", -1).length - 1;
            Check.due(at + "isles()", Check.tell(x, text), lines[3]);
            told = true;
        }
    }

    private void keep() {
        int k = random.nextInt(5) - 1;
        boolean is = k >= 0 && k < 3;
        Check.due(at + "image", x.image(k), is ? 0 : -2);
        if (is) {
            images[k] = told ? new Model(new Random(0), 1, 0) : null;
            keptEmpty[k] = !told;
            lines[k] = lines[3];
            if (told) {
                images[k].copyFrom(model);
            }
        }
    }

    private void back() {
        int k = random.nextInt(5) - 1;
        boolean is = k >= 0 && k < 3;
        boolean has = is && (images[k] != null || keptEmpty[k]);
        Check.due(at + "back", x.back(k), is ? has ? 0 : -6 : -2);
        if (has) {
            told = !keptEmpty[k];
            lines[3] = lines[k];
            if (told) {
                model.copyFrom(images[k]);
            }
        }
    }

    private int people() {
        return told ? model.people : 0;
    }

    private void promise() {
        int person = random.nextInt(7) - 1;
        int other = random.nextInt(7) - 1;
        int worth = random.nextInt(6) == 0 ? 999999 + random.nextInt(3) : random.nextInt(40);
        boolean is = person >= 0 && person < people() && other >= 0 && other < people() && person != other
            && worth >= 1 && worth <= 1000000;
        int due = !is ? -2 : !model.acts.isEmpty() ? -5 : model.promises == 10 ? -3 : model.promises;
        Check.due(at + "promises", x.promises(person, other, worth), due);
        if (due >= 0) {
            model.ower[due] = person;
            model.owee[due] = other;
            model.full[due] = worth;
            model.first[due] = model.now;
            model.drunk[due] = false;
            model.on[due] = -1;
            model.promises++;
            model.replay();
        }
    }

    private void shut() {
        int isle = random.nextInt(6) - 1;
        int moon = told ? model.now + random.nextInt(8) - 2 : random.nextInt(100);
        int is = random.nextInt(4) - 1;
        boolean are = told && isle >= 0 && isle < model.isles && moon >= 0 && moon < 100 && (is == 0 || is == 1);
        int due = !are ? -2 : !model.acts.isEmpty() ? -5 : model.shut[isle][moon] ? 1 : 0;
        Check.due(at + "shuts", x.shuts(isle, moon, is), due);
        if (due >= 0) {
            model.shut[isle][moon] = is == 1;
        }
    }

    private void tend() {
        int person = random.nextInt(7) - 1;
        int n = random.nextInt(104) - 1;
        boolean are = person >= 0 && person < people() && n >= 0 && n <= 100;
        Check.due(at + "tends", x.tends(person, n), are ? model.tends[person] : -2);
        if (are) {
            model.tends[person] = n;
        }
    }

    private void anew() {
        Check.due(at + "anew", x.anew(), told ? model.acts.size() : -2);
        if (told) {
            model.acts.clear();
            model.replay();
        }
    }

    private void undo() {
        Check.due(at + "undo", x.undo(), !told ? -2 : model.acts.isEmpty() ? -5 : model.acts.size() - 1);
        if (told && !model.acts.isEmpty()) {
            model.acts.remove(model.acts.size() - 1);
            model.replay();
        }
    }

    private void pass() {
        boolean can = told && model.now < 99 && model.acts.size() < 60;
        Check.due(at + "passes", x.passes(), !told ? -2 : can ? model.now + 1 : -5);
        done(can, 200);
    }

    private void say() {
        int promise = random.nextInt(11) - 1;
        boolean is = told && promise >= 0 && promise < model.promises;
        boolean can = is && model.canSay(promise) && model.acts.size() < 60;
        int got = x.says(promise);
        done(can, 100 + promise);
        Check.due(at + "says", got, !is ? -2 : can ? model.worth(model.heard, promise, model.now) : -5);
    }

    private void row() {
        int person = random.nextInt(7) - 1;
        int isle = random.nextInt(6) - 1;
        boolean is = told && person >= 0 && person < model.people && isle >= 0 && isle < model.isles;
        boolean can = is && model.canRow(person, isle) && model.acts.size() < 60;
        int due = !is ? -2 : can ? model.seas[model.where[person]][isle] : -5;
        Check.due(at + "rows", x.rows(person, isle), due);
        done(can, 10 * person + isle);
    }

    private void done(boolean can, int act) {
        if (can) {
            model.acts.add(act);
            model.apply(act);
        }
    }

    private void hold(int run) {
        Check.due(at + "count(6)", x.count(6), lines[3]);
        Check.due(at + "count(0)", x.count(0), told ? model.isles : 0);
        Check.due(at + "count(1)", x.count(1), people());
        Check.due(at + "count(2)", x.count(2), told ? model.promises : 0);
        if (!told) {
            none();
            return;
        }
        Check.due(at + "count(8)", x.count(8), model.told);
        inside();
        SearchTest.standing(model, x, at);
        if (random.nextInt(4) == 0) {
            SearchTest.debts(random, model, x, run);
            SearchTest.plans(random, model, x, run);
            SearchTest.loves(random, model, x, run);
            SearchTest.years(random, model, x, run);
            SearchTest.weighings(random, model, x, run);
        }
    }

    private void none() {
        Check.due(at + "now", x.now(), -2);
        Check.due(at + "act", x.act(0), -2);
        Check.due(at + "can", x.can(), -2);
        Check.due(at + "joined", x.joined(), -2);
        Check.due(at + "richest", x.richest(5), -2);
        Check.due(at + "greatest", x.greatest(5), -2);
        Check.due(at + "ring", x.ring(5), -2);
        for (int what : new int[] {3, 4, 5}) {
            Check.due(at + "count of " + what, x.count(what), 0);
        }
    }

    private void inside() {
        int seas = 0;
        int shut = 0;
        for (int a = 0; a < model.isles; a++) {
            for (int b = 0; b < model.isles; b++) {
                Check.due(at + "sea", x.sea(a, b), a == b ? -2 : model.seas[a][b]);
                seas += a < b && model.seas[a][b] > 0 ? 1 : 0;
            }
            for (int moon = 0; moon < 100; moon++) {
                Check.due(at + "open", x.open(a, moon), model.shut[a][moon] ? 0 : 1);
                shut += model.shut[a][moon] ? 1 : 0;
            }
        }
        Check.due(at + "count(3)", x.count(3), seas);
        Check.due(at + "count(4)", x.count(4), shut);
        for (int p = 0; p < model.people; p++) {
            Check.due(at + "person", x.person(p, 0), model.home[p]);
            Check.due(at + "dies", x.person(p, 1), model.dies[p]);
            Check.due(at + "tends", x.person(p, 2), model.tends[p]);
        }
        for (int p = 0; p < model.promises; p++) {
            int[] due = {model.ower[p], model.owee[p], model.full[p], model.first[p], model.drunk[p] ? 1 : 0, model.on[p]};
            for (int what = 0; what < 6; what++) {
                Check.due(at + "promise", x.promise(p, what), due[what]);
            }
        }
    }
}
