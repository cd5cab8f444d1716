import java.util.ArrayList;
import java.util.List;
import java.util.Random;
import java.util.TreeSet;

/** The document's words, written down as plainly and slowly as can be, to hold the program against. */
final class Model {
    int isles;
    int told;
    int people;
    int promises;
    final int[][] seas = new int[6][6];
    final boolean[][] shut = new boolean[6][100];
    final int[] home = new int[6];
    final int[] dies = new int[6];
    final int[] tends = new int[6];
    final int[] ower = new int[10];
    final int[] owee = new int[10];
    final int[] full = new int[10];
    final int[] first = new int[10];
    final boolean[] drunk = new boolean[10];
    final int[] on = new int[10];
    List<Integer> acts = new ArrayList<>();
    int now;
    final int[] where = new int[6];
    final int[] rowed = new int[6];
    final int[] rowedIn = new int[6];
    final List<TreeSet<Integer>> heard = new ArrayList<>();

    Model(Random random, int mostIsles, int latest) {
        isles = 1 + random.nextInt(mostIsles);
        told = random.nextInt(latest + 1);
        people = random.nextInt(7);
        promises = people < 2 ? 0 : random.nextInt(11);
        for (int a = 0; a < isles; a++) {
            for (int b = 0; b < a; b++) {
                seas[a][b] = random.nextInt(3) == 0 ? 0 : 1 + random.nextInt(random.nextBoolean() ? 20 : 3);
                seas[b][a] = seas[a][b];
            }
            for (int i = random.nextInt(4); i > 0; i--) {
                shut[a][Math.min(99, told + random.nextInt(6))] = true;
            }
        }
        for (int p = 0; p < people; p++) {
            home[p] = random.nextInt(isles);
            dies[p] = random.nextInt(3) > 0 ? -1 : Math.max(0, Math.min(99, told - 3 + random.nextInt(12)));
            tends[p] = random.nextInt(101);
        }
        for (int p = 0; p < promises; p++) {
            ower[p] = random.nextInt(Math.min(people, 3));
            owee[p] = (ower[p] + 1 + random.nextInt(people - 1)) % people;
            full[p] = 1 + random.nextInt(random.nextBoolean() ? 1000000 : 40);
            first[p] = Math.max(0, told - random.nextInt(random.nextInt(4) == 0 ? 20 : 3));
            drunk[p] = random.nextInt(4) == 0;
            on[p] = p > 0 && random.nextInt(4) == 0 ? random.nextInt(p) : -1;
        }
        replay();
    }

    /** As another one is, by its isles and acts. */
    void copyFrom(Model other) {
        isles = other.isles;
        told = other.told;
        people = other.people;
        promises = other.promises;
        for (int a = 0; a < 6; a++) {
            System.arraycopy(other.seas[a], 0, seas[a], 0, 6);
            System.arraycopy(other.shut[a], 0, shut[a], 0, 100);
            home[a] = other.home[a];
            dies[a] = other.dies[a];
            tends[a] = other.tends[a];
        }
        for (int p = 0; p < 10; p++) {
            ower[p] = other.ower[p];
            owee[p] = other.owee[p];
            full[p] = other.full[p];
            first[p] = other.first[p];
            drunk[p] = other.drunk[p];
            on[p] = other.on[p];
        }
        acts = new ArrayList<>(other.acts);
        replay();
    }

    String text() {
        StringBuilder all = new StringBuilder("isles " + isles + " at " + told + ";\n");
        for (int a = 0; a < isles; a++) {
            for (int b = 0; b < a; b++) {
                if (seas[a][b] > 0) {
                    all.append("sea " + a + " " + b + " oars " + seas[a][b] + ";");
                }
            }
            for (int m = 0; m < 100; m++) {
                if (shut[a][m]) {
                    all.append("shut " + a + " " + m + ";");
                }
            }
        }
        for (int p = 0; p < people; p++) {
            all.append("person on " + home[p] + (dies[p] < 0 ? "" : " dies " + dies[p]) + " tends " + tends[p] + ";");
        }
        for (int p = 0; p < promises; p++) {
            all.append("promise " + ower[p] + " to " + owee[p] + " worth " + full[p] + " said " + first[p]
                + (on[p] < 0 ? "" : " on " + on[p]) + (drunk[p] ? " drunk" : "") + ";");
        }
        return all.toString();
    }

    void replay() {
        now = told;
        heard.clear();
        for (int p = 0; p < people; p++) {
            where[p] = home[p];
            rowed[p] = 0;
            rowedIn[p] = -1;
        }
        for (int p = 0; p < promises; p++) {
            heard.add(new TreeSet<>());
            heard.get(p).add(first[p]);
        }
        for (int act : acts) {
            apply(act);
        }
    }

    void apply(int act) {
        if (act == 200) {
            now++;
        } else if (act >= 100) {
            heard.get(act - 100).add(now);
        } else {
            rowed[act / 10] += seas[where[act / 10]][act % 10];
            where[act / 10] = act % 10;
            rowedIn[act / 10] = now;
        }
    }

    boolean alive(int person, int moon) {
        return dies[person] < 0 || moon < dies[person];
    }

    boolean leads(int person, int from, int to, int moon) {
        return alive(person, moon) && from != to && seas[from][to] > 0 && !shut[from][moon] && !shut[to][moon];
    }

    boolean canRow(int person, int isle) {
        return rowedIn[person] != now && leads(person, where[person], isle, now);
    }

    boolean canSay(int promise) {
        return alive(ower[promise], now) && alive(owee[promise], now)
            && where[ower[promise]] == where[owee[promise]];
    }

    int own(int promise, TreeSet<Integer> sayings, int moon) {
        Integer last = sayings.floor(moon);
        if (last == null) {
            return -1;
        }
        int all = moon - last + (last == first[promise] && drunk[promise] ? 1 : 0);
        for (int m = 0; m <= moon; m++) {
            all += !alive(ower[promise], m) && m > dies[ower[promise]] ? 1 : 0;
        }
        return all;
    }

    int halvings(List<TreeSet<Integer>> sayings, int promise, int moon) {
        int own = own(promise, sayings.get(promise), moon);
        if (own < 0 || on[promise] < 0) {
            return own;
        }
        int rest = halvings(sayings, on[promise], moon);
        return rest < 0 ? -1 : own + rest;
    }

    int worth(List<TreeSet<Integer>> sayings, int promise, int moon) {
        int often = halvings(sayings, promise, moon);
        return often < 0 ? 0 : halved(full[promise], often);
    }

    static int halved(int worth, int often) {
        int rest = worth;
        for (int i = 0; i < often; i++) {
            rest = (rest + 1) / 2;
        }
        return rest;
    }

    List<TreeSet<Integer>> copyOfHeard() {
        List<TreeSet<Integer>> copy = new ArrayList<>();
        for (TreeSet<Integer> one : heard) {
            copy.add(new TreeSet<>(one));
        }
        return copy;
    }

    int owed(int person, int other, int moon) {
        int all = 0;
        for (int p = 0; p < promises; p++) {
            all += ower[p] == person && owee[p] == other ? worth(heard, p, moon) : 0;
        }
        return all;
    }

    int sum(int person, int moon, int what) {
        int all = 0;
        for (int other = 0; other < people; other++) {
            all += what == 0 ? owed(person, other, moon) : owed(other, person, moon);
            all -= what == 2 ? owed(person, other, moon) : 0;
        }
        return all;
    }

    /** All rows of isles that can be rowed, in their order. */
    List<int[]> rowsOfIsles(int person, int n) {
        List<int[]> found = new ArrayList<>();
        extend(found, person, new int[n], 0);
        return found;
    }

    private void extend(List<int[]> found, int person, int[] row, int k) {
        if (k == row.length) {
            found.add(row.clone());
            return;
        }
        int at = k == 0 ? where[person] : row[k - 1];
        for (int isle = 0; isle < isles; isle++) {
            if (isle == at || leads(person, at, isle, now + 1 + k)) {
                row[k] = isle;
                extend(found, person, row, k + 1);
            }
        }
    }

    int oars(int person, int[] row, int length) {
        int all = 0;
        int at = where[person];
        for (int k = 0; k < length; k++) {
            all += at == row[k] ? 0 : seas[at][row[k]];
            at = row[k];
        }
        return all;
    }

    /** Promises to be kept, and those that a row keeps, as bits. */
    int asked(int person) {
        int bits = 0;
        for (int p = 0; p < promises; p++) {
            bits |= ower[p] == person && own(p, heard.get(p), now) <= 1 ? 1 << p : 0;
        }
        return bits;
    }

    int kept(int person, int[] row) {
        int bits = 0;
        for (int p = 0; p < promises; p++) {
            if (ower[p] != person) {
                continue;
            }
            TreeSet<Integer> sayings = new TreeSet<>(heard.get(p));
            boolean kept = true;
            for (int k = 0; k < row.length; k++) {
                int moon = now + 1 + k;
                if (row[k] == where[owee[p]] && alive(person, moon) && alive(owee[p], moon)) {
                    sayings.add(moon);
                }
                kept &= own(p, sayings, moon) <= 1;
            }
            bits |= kept ? 1 << p : 0;
        }
        return bits;
    }

    boolean alone(int promise) {
        boolean alone = on[promise] < 0;
        for (int p = 0; p < promises; p++) {
            alone &= on[p] != promise;
        }
        return alone;
    }

    int joins(int p, int q) {
        int often = halvings(heard, p, now);
        if (ower[p] != ower[q] || owee[p] != owee[q] || !alone(p) || !alone(q)
            || often != halvings(heard, q, now) || often < 1 || often > 20) {
            return -5;
        }
        return halved(full[p] + full[q], often - 1) - worth(heard, p, now) - worth(heard, q, now);
    }
}
