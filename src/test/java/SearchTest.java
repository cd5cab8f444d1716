import java.util.ArrayList;
import java.util.List;
import java.util.Random;
import java.util.TreeSet;

/** Holds the program against Model in drawn worlds, by searching all that can be. */
public final class SearchTest {
    private SearchTest() {
    }

    public static void main(String[] args) {
        for (int world = 0; world < 1500; world++) {
            Random random = new Random(world);
            Model m = new Model(random, 4, world % 10 == 0 ? 99 : 30);
            MoonPromises x = Check.told(m.text());
            wander(random, m, x, world);
            debts(random, m, x, world);
            plans(random, m, x, world);
            loves(random, m, x, world);
            years(random, m, x, world);
            weighings(random, m, x, world);
        }
        threats();
        Check.finish("SearchTest");
    }

    /** Acts that can be done and some that can't; some are taken back. */
    private static void wander(Random random, Model m, MoonPromises x, int world) {
        String at = "world " + world + ": ";
        for (int i = random.nextInt(70); i > 0; i--) {
            int want = -5;
            int done = -1;
            int kind = random.nextInt(8);
            if (kind < 3 && m.people > 0) {
                int person = random.nextInt(m.people);
                int isle = random.nextInt(m.isles);
                int oars = m.seas[m.where[person]][isle];
                want = m.canRow(person, isle) && m.acts.size() < 60 ? oars : -5;
                done = want == -5 ? -1 : 10 * person + isle;
                Check.due(at + "rows", x.rows(person, isle), want);
            } else if (kind < 5 && m.promises > 0) {
                int promise = random.nextInt(m.promises);
                boolean can = m.canSay(promise) && m.acts.size() < 60;
                done = can ? 100 + promise : -1;
                act(m, done);
                Check.due(at + "says", x.says(promise), can ? m.worth(m.heard, promise, m.now) : -5);
                done = -1;
            } else if (kind == 5) {
                boolean can = m.now < 99 && m.acts.size() < 60;
                done = can ? 200 : -1;
                Check.due(at + "passes", x.passes(), can ? m.now + 1 : -5);
            } else if (kind == 6 && random.nextInt(3) == 0) {
                boolean can = !m.acts.isEmpty();
                if (can) {
                    m.acts.remove(m.acts.size() - 1);
                    m.replay();
                }
                Check.due(at + "undo", x.undo(), can ? m.acts.size() : -5);
            }
            act(m, done);
        }
        standing(m, x, at);
    }

    private static void act(Model m, int act) {
        if (act >= 0) {
            m.acts.add(act);
            m.apply(act);
        }
    }

    static void standing(Model m, MoonPromises x, String at) {
        Check.due(at + "now", x.now(), m.now);
        Check.due(at + "count(5)", x.count(5), m.acts.size());
        int can = 0;
        for (int p = 0; p < m.promises; p++) {
            can |= m.canSay(p) ? 1 << p : 0;
        }
        Check.due(at + "can", x.can(), can);
        for (int p = 0; p < m.people; p++) {
            int sails = 0;
            for (int isle = 0; isle < m.isles; isle++) {
                sails |= m.canRow(p, isle) ? 1 << isle : 0;
            }
            Check.due(at + "sails", x.sails(p), sails);
            Check.due(at + "where", x.where(p), m.where[p]);
            Check.due(at + "rowed", x.rowed(p), m.rowed[p]);
        }
        for (int i = 0; i < m.acts.size(); i++) {
            Check.due(at + "act", x.act(i), m.acts.get(i));
        }
    }

    static void debts(Random random, Model m, MoonPromises x, int world) {
        String at = "world " + world + ": ";
        int moon = random.nextBoolean() ? random.nextInt(100) : Math.max(0, m.now - 3 + random.nextInt(4));
        int greatest = -1;
        for (int p = 0; p < m.promises; p++) {
            Check.due(at + "halvings", x.halvings(p, moon), m.halvings(m.heard, p, moon));
            int worth = m.worth(m.heard, p, moon);
            Check.due(at + "worth", x.worth(p, moon), worth);
            if (worth > (greatest < 0 ? 0 : m.worth(m.heard, greatest, moon))) {
                greatest = p;
            }
            int n = m.worth(m.heard, p, random.nextInt(100));
            int falls = m.now;
            while (falls <= 99 && m.worth(m.heard, p, falls) > n) {
                falls++;
            }
            Check.due(at + "falls", x.falls(p, n), falls > 99 ? -1 : falls);
        }
        Check.due(at + "greatest", x.greatest(moon), greatest);
        int richest = -1;
        int ring = 0;
        int[] row = {-1, -1, -1};
        for (int a = 0; a < m.people; a++) {
            for (int what = 0; what < 3; what++) {
                Check.due(at + "sum", x.sum(a, moon, what), m.sum(a, moon, what));
            }
            richest = richest < 0 || m.sum(a, moon, 2) > m.sum(richest, moon, 2) ? a : richest;
            for (int b = 0; b < m.people; b++) {
                Check.due(at + "owed", x.owed(a, b, moon), a == b ? -2 : m.owed(a, b, moon));
                for (int c = 0; c < m.people; c++) {
                    boolean unlike = a != b && b != c && a != c;
                    int least = Math.min(m.owed(a, b, moon), Math.min(m.owed(b, c, moon), m.owed(c, a, moon)));
                    Check.due(at + "strikes", x.strikes(a, b, c, moon), unlike ? least : -2);
                    if (unlike && least > ring) {
                        ring = least;
                        row = new int[] {a, b, c};
                    }
                }
            }
        }
        Check.due(at + "richest", x.richest(moon), richest);
        Check.due(at + "ring", x.ring(moon), ring);
        for (int i = 0; i < 3; i++) {
            Check.due(at + "ringed", x.ringed(moon, i), row[i]);
        }
        joins(m, x, at);
    }

    private static void joins(Model m, MoonPromises x, String at) {
        int best = -1;
        int most = -2;
        for (int p = 0; p < m.promises; p++) {
            for (int q = 0; q < m.promises; q++) {
                int gain = p == q ? -2 : m.joins(p, q);
                Check.due(at + "joins", x.joins(p, q), gain);
                if (p < q && gain > most) {
                    most = gain;
                    best = 10 * p + q;
                }
            }
        }
        Check.due(at + "joined", x.joined(), best);
    }

    static void plans(Random random, Model m, MoonPromises x, int world) {
        String at = "world " + world + ": ";
        if (m.people == 0) {
            return;
        }
        int person = random.nextInt(Math.min(3, m.people));
        int n = 1 + random.nextInt(5);
        if (m.now + n > 99) {
            Check.due(at + "keeps beyond", x.keeps(person, n), -2);
            return;
        }
        int asked = m.asked(person);
        long count = 0;
        int least = -1;
        int[] first = null;
        int fallen = asked;
        for (int[] row : m.rowsOfIsles(person, n)) {
            int missed = asked & ~m.kept(person, row);
            if (missed == 0) {
                count++;
                int oars = m.oars(person, row, n);
                if (least < 0 || oars < least) {
                    least = oars;
                    first = row;
                }
            }
            int fewer = Integer.bitCount(missed) - Integer.bitCount(fallen);
            if (fewer < 0 || fewer == 0 && missed < fallen) {
                fallen = missed;
            }
        }
        Check.due(at + "keeps", x.keeps(person, n), least);
        Check.due(at + "plans", x.plans(person, n), count);
        Check.due(at + "lets", x.lets(person, n), Integer.bitCount(fallen));
        Check.due(at + "fallen", x.fallen(person, n), fallen);
        for (int i = 0; i < n; i++) {
            Check.due(at + "plan", x.plan(person, n, i), first == null ? -1 : first[i]);
        }
    }

    static void loves(Random random, Model m, MoonPromises x, int world) {
        String at = "world " + world + ": ";
        if (m.promises == 0) {
            return;
        }
        int p = random.nextInt(m.promises);
        int n = random.nextInt(6);
        if (m.now + n > 99) {
            Check.due(at + "love beyond", x.love(p, 1, n), -2);
            return;
        }
        int end = m.now + n;
        int v = Math.max(1, Model.halved(m.full[p], random.nextInt(8)) - random.nextInt(2));
        int least = -1;
        int when = -1;
        if (m.worth(m.heard, p, end) >= v) {
            least = 0;
            when = m.now;
        } else {
            for (int k = 0; k <= n; k++) {
                for (int[] row : m.rowsOfIsles(m.ower[p], k)) {
                    int moon = m.now + k;
                    int isle = k == 0 ? m.where[m.ower[p]] : row[k - 1];
                    List<TreeSet<Integer>> sayings = m.copyOfHeard();
                    sayings.get(p).add(moon);
                    int oars = m.oars(m.ower[p], row, k);
                    if (isle == m.where[m.owee[p]] && m.alive(m.ower[p], moon) && m.alive(m.owee[p], moon)
                        && m.worth(sayings, p, end) >= v && (least < 0 || oars < least)) {
                        least = oars;
                        when = moon;
                    }
                }
            }
        }
        Check.due(at + "love", x.love(p, v, n), least);
        Check.due(at + "when", x.when(p, v, n), when);
    }

    static void years(Random random, Model m, MoonPromises x, int world) {
        String at = "world " + world + ": ";
        if (m.promises == 0) {
            return;
        }
        int asked = random.nextInt(m.promises);
        int n = 1 + random.nextInt(40);
        int seeds = 1 + random.nextInt(20);
        int seed = random.nextInt(2000000001);
        if (m.now + n > 99) {
            Check.due(at + "drawn beyond", x.drawn(seed, n, asked), -2);
            return;
        }
        int lucky = 0;
        for (int i = 0; i < seeds; i++) {
            List<TreeSet<Integer>> sayings = m.copyOfHeard();
            int often = 0;
            java.math.BigInteger state = java.math.BigInteger.valueOf(seed + (long) i);
            for (int moon = m.now + 1; moon <= m.now + n; moon++) {
                for (int p = 0; p < m.promises; p++) {
                    if (!m.alive(m.ower[p], moon) || !m.alive(m.owee[p], moon)) {
                        continue;
                    }
                    state = state.multiply(java.math.BigInteger.valueOf(1103515245))
                        .add(java.math.BigInteger.valueOf(12345)).mod(java.math.BigInteger.valueOf(2147483648L));
                    if (state.longValue() / 65536 % 100 < m.tends[m.ower[p]]) {
                        sayings.get(p).add(moon);
                        often += p == asked ? 1 : 0;
                    }
                }
            }
            int worth = m.worth(sayings, asked, m.now + n);
            lucky += 2 * worth >= m.full[asked] ? 1 : 0;
            if (i == 0) {
                Check.due(at + "drawn", x.drawn(seed, n, asked), worth);
                Check.due(at + "often", x.often(seed, n, asked), often);
            }
        }
        Check.due(at + "lucky", x.lucky(seed, seeds, n, asked), lucky);
    }

    /** Worth in a moon so far behind its own, if said again as a way tells. */
    private static int weight(Model m, int p, int way, int behind) {
        int last = 0;
        for (int d = 1; d <= behind; d++) {
            last = (way >> d - 1 & 1) != 0 ? d : last;
        }
        return Model.halved(m.full[p], behind - last + (last == 0 && m.drunk[p] ? 1 : 0));
    }

    static void weighings(Random random, Model m, MoonPromises x, int world) {
        String at = "world " + world + ": ";
        if (m.promises == 0) {
            return;
        }
        int p = random.nextInt(m.promises);
        if (m.on[p] >= 0) {
            return;
        }
        int truth = random.nextInt(4) == 0 ? 0 : random.nextInt(1024);
        int pairs = random.nextInt(4);
        long[] numbers = new long[2 * pairs];
        for (int i = 0; i < pairs; i++) {
            int behind = random.nextInt(11);
            numbers[2 * i] = m.first[p] + behind;
            numbers[2 * i + 1] = weight(m, p, random.nextInt(9) == 0 ? random.nextInt(1024) : truth, behind);
        }
        Check.slot(x, 1, 2 + random.nextInt(2), numbers);
        List<Integer> ways = new ArrayList<>();
        int all = 1023;
        int some = 0;
        int fewest = 11;
        for (int way = 0; way < 1024; way++) {
            boolean fits = true;
            for (int i = 0; i < pairs; i++) {
                fits &= weight(m, p, way, (int) numbers[2 * i] - m.first[p]) == numbers[2 * i + 1];
            }
            if (fits) {
                ways.add(way);
                all &= way;
                some |= way;
                fewest = Math.min(fewest, Integer.bitCount(way));
            }
        }
        Check.due(at + "weighed", x.weighed(1, p), ways.size());
        Check.due(at + "must 0", x.must(1, p, 0), ways.isEmpty() ? 0 : all);
        Check.due(at + "must 1", x.must(1, p, 1), some);
        Check.due(at + "times", x.times(1, p), ways.isEmpty() ? -1 : fewest);
        int best = -1;
        int least = ways.size();
        for (int d = 1; d <= 10; d++) {
            java.util.Map<Integer, Integer> left = new java.util.HashMap<>();
            int worst = 0;
            for (int way : ways) {
                worst = Math.max(worst, left.merge(weight(m, p, way, d), 1, Integer::sum));
            }
            if (worst < least) {
                least = worst;
                best = m.first[p] + d;
            }
        }
        Check.due(at + "weigh", x.weigh(1, p), best);
        alone(m, x, at, p, numbers);
    }

    /** Of one saying: in which moon, of how much. */
    private static void alone(Model m, MoonPromises x, String at, int p, long[] numbers) {
        int drunk = m.drunk[p] ? 1 : 0;
        int bits = 0;
        for (int moon = 0; moon <= 30; moon++) {
            boolean fits = true;
            for (int i = 0; i < numbers.length; i += 2) {
                fits &= numbers[i] >= moon
                    && Model.halved(m.full[p], (int) numbers[i] - moon + drunk) == numbers[i + 1];
            }
            bits |= fits ? 1 << moon : 0;
        }
        Check.due(at + "said", x.said(1, p), bits);
        int low = -1;
        int high = -1;
        for (int full = 1; full <= 1000000 && (numbers.length > 0 || full < 2); full++) {
            boolean fits = true;
            for (int i = 0; i < numbers.length && fits; i += 2) {
                fits = Model.halved(full, (int) numbers[i] - m.first[p] + drunk) == numbers[i + 1];
            }
            if (fits) {
                low = low < 0 ? full : low;
                high = full;
            }
        }
        Check.due(at + "span 0", x.span(1, p, 0), low);
        Check.due(at + "span 1", x.span(1, p, 1), numbers.length == 0 ? 1000000 : high);
    }

    private static void threats() {
        java.util.Map<String, Boolean> known = new java.util.HashMap<>();
        for (int draw = 0; draw < 400; draw++) {
            Random random = new Random(draw);
            int[] heaps = new int[random.nextInt(4)];
            long[] numbers = new long[heaps.length];
            for (int i = 0; i < heaps.length; i++) {
                heaps[i] = random.nextInt(random.nextBoolean() ? 100 : 8) % (i > 1 ? 12 : 100);
                numbers[i] = heaps[i];
            }
            MoonPromises x = new MoonPromises();
            Check.slot(x, 0, draw % 4, numbers);
            Check.due("wins of draw " + draw, x.wins(0), wins(known, heaps) ? 1 : 0);
            int turn = -1;
            for (int i = heaps.length - 1; i >= 0; i--) {
                if (heaps[i] > 0) {
                    turn = !wins(known, with(heaps, i, heaps[i] / 2)) ? 10 + i : turn;
                    turn = !wins(known, with(heaps, i, heaps[i] - 1)) ? i : turn;
                }
            }
            Check.due("turn of draw " + draw, x.turn(0), turn);
        }
    }

    private static int[] with(int[] heaps, int i, int number) {
        int[] copy = heaps.clone();
        copy[i] = number;
        return copy;
    }

    private static boolean wins(java.util.Map<String, Boolean> known, int[] heaps) {
        int[] sorted = heaps.clone();
        java.util.Arrays.sort(sorted);
        String key = java.util.Arrays.toString(sorted);
        Boolean before = known.get(key);
        if (before != null) {
            return before;
        }
        boolean found = false;
        for (int i = 0; i < sorted.length && !found; i++) {
            found = sorted[i] > 0 && (!wins(known, with(sorted, i, sorted[i] - 1))
                || !wins(known, with(sorted, i, sorted[i] / 2)));
        }
        known.put(key, found);
        return found;
    }
}
