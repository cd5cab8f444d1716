import java.util.Arrays;

/** Isles, people and promises that halve with each moon in which they are not said. */
public final class MoonPromises {
    public static final int NONE = -1;

    private static final int NO_SUCH = -2;
    private static final int TOO_MANY = -3;
    private static final int FAULTY = -4;
    private static final int CANNOT = -5;
    private static final int NOTHING = -6;
    private static final int BEYOND = -7;
    private static final int OTHER_WIDTH = -8;
    private static final int NO_SUM = -2000000000;

    private static final int MOST_BYTES = 1600;
    private static final int FEED_BYTES = 20;
    private static final int MOST_ISLES = 6;
    private static final int MOST_PEOPLE = 6;
    private static final int MOST_PROMISES = 10;
    private static final int MOST_OARS = 20;
    private static final int MOST_TENDS = 100;
    private static final int MOST_WORTH = 1000000;
    private static final int LAST_MOON = 99;
    private static final int MOST_ACTS = 60;
    private static final int SAY_ACT = 100;
    private static final int MOON_ACT = 200;
    private static final int MOST_PLANNED = 12;
    private static final int MOST_YEARS = 40;
    private static final int MOST_SEEDS = 20;
    private static final int MOST_SEED = 2000000000;
    private static final int MOST_JOINED_HALVINGS = 20;
    private static final int IMAGES = 3;
    private static final int SLOTS = 4;
    private static final int WIDTHS = 4;
    private static final int MOST_NUMBERS = 60;
    /** From this many halvings on, every worth (two millions at most) is 1. */
    private static final int HALVED_AWAY = 24;

    private final Reader reader = new Reader();
    private final Course course = new Course();
    /** null: it has nothing. */
    private final Told[] images = new Told[IMAGES];
    private final Ledger ledger = new Ledger();
    private final Planner planner = new Planner();
    private final Scales scales = new Scales();
    private final Threat threat = new Threat();
    private final Years years = new Years();
    private final Slots slots = new Slots();

    public MoonPromises() {
    }

    public int feed(int a, int b, int c, int d, int e) {
        if (reader.length + FEED_BYTES > MOST_BYTES) {
            return NONE;
        }
        reader.addFour(a);
        reader.addFour(b);
        reader.addFour(c);
        reader.addFour(d);
        reader.addFour(e);
        return reader.length;
    }

    public int end(int n) {
        if (n < 0 || n > reader.length) {
            return NONE;
        }
        reader.length = n;
        return n;
    }

    public int isles() {
        boolean sound = reader.readAll();
        // Each text is told anew: the tape of a faulty one is gone too.
        reader.length = 0;
        if (!sound) {
            return FAULTY;
        }
        course.told.copyFrom(reader.draft);
        course.replay();
        return course.told.lines;
    }

    public int fault(int what) {
        if (what == 0) {
            return reader.fault;
        }
        return what == 1 ? reader.faultPlace : NONE;
    }

    public int person(int person, int what) {
        Told told = course.told;
        if (!told.isPerson(person)) {
            return NO_SUCH;
        }
        switch (what) {
            case 0: return told.home[person];
            case 1: return told.death[person];
            case 2: return told.tending[person];
            default: return NO_SUCH;
        }
    }

    public int promise(int promise, int what) {
        Told told = course.told;
        if (!told.isPromise(promise)) {
            return NO_SUCH;
        }
        switch (what) {
            case 0: return told.ower[promise];
            case 1: return told.owee[promise];
            case 2: return told.full[promise];
            case 3: return told.first[promise];
            case 4: return told.drunk[promise];
            case 5: return told.base[promise];
            default: return NO_SUCH;
        }
    }

    public int sea(int isle, int other) {
        Told told = course.told;
        if (!told.isIsle(isle) || !told.isIsle(other) || isle == other) {
            return NO_SUCH;
        }
        return told.oarsBetween(isle, other);
    }

    public int open(int isle, int moon) {
        if (!course.told.isIsle(isle) || !isMoon(moon)) {
            return NO_SUCH;
        }
        return course.told.isShut(isle, moon) ? 0 : 1;
    }

    public int halvings(int promise, int moon) {
        if (!course.told.isPromise(promise) || !isMoon(moon)) {
            return NO_SUCH;
        }
        return course.told.halvingsBy(course.lastsAt(moon), promise, moon);
    }

    public int worth(int promise, int moon) {
        if (!course.told.isPromise(promise) || !isMoon(moon)) {
            return NO_SUCH;
        }
        return course.told.worthBy(course.lastsAt(moon), promise, moon);
    }

    public int falls(int promise, int n) {
        if (!course.told.isPromise(promise)) {
            return NO_SUCH;
        }
        int[] lasts = course.lastsAt(course.moon);
        for (int moon = course.moon; moon <= LAST_MOON; moon++) {
            if (course.told.worthBy(lasts, promise, moon) <= n) {
                return moon;
            }
        }
        return NONE;
    }

    public int owed(int person, int other, int moon) {
        if (!arePair(person, other) || !isMoon(moon)) {
            return NO_SUCH;
        }
        ledger.fill(course, moon);
        return ledger.debt(person, other);
    }

    public int sum(int person, int moon, int what) {
        if (!course.told.isPerson(person) || !isMoon(moon) || what < 0 || what > 2) {
            return NO_SUM;
        }
        ledger.fill(course, moon);
        if (what == 0) {
            return ledger.owing(person);
        }
        return what == 1 ? ledger.due(person) : ledger.due(person) - ledger.owing(person);
    }

    public int richest(int moon) {
        if (!isToldMoon(moon)) {
            return NO_SUCH;
        }
        ledger.fill(course, moon);
        return ledger.first();
    }

    public int greatest(int moon) {
        if (!isToldMoon(moon)) {
            return NO_SUCH;
        }
        int[] worths = course.worthsAt(moon);
        int best = NONE;
        int most = 0;
        for (int p = 0; p < course.told.promises; p++) {
            if (worths[p] > most) {
                most = worths[p];
                best = p;
            }
        }
        return best;
    }

    public int root(int promise) {
        if (!course.told.isPromise(promise)) {
            return NO_SUCH;
        }
        int at = promise;
        for (int depth = 0; depth < MOST_PROMISES && course.told.base[at] != NONE; depth++) {
            at = course.told.base[at];
        }
        return at;
    }

    public int upon(int promise) {
        Told told = course.told;
        if (!told.isPromise(promise)) {
            return NO_SUCH;
        }
        // A promise stands behind that on which it is, so one pass finds every depth.
        int found = 1 << promise;
        for (int p = promise + 1; p < told.promises; p++) {
            if (told.base[p] != NONE && (found >> told.base[p] & 1) != 0) {
                found |= 1 << p;
            }
        }
        return found & ~(1 << promise);
    }

    public int now() {
        return course.told.lines == 0 ? NO_SUCH : course.moon;
    }

    public int where(int person) {
        return course.told.isPerson(person) ? course.place[person] : NO_SUCH;
    }

    public int rowed(int person) {
        return course.told.isPerson(person) ? course.oars[person] : NO_SUCH;
    }

    public int rows(int person, int isle) {
        if (!course.told.isPerson(person) || !course.told.isIsle(isle)) {
            return NO_SUCH;
        }
        if (!course.canRow(person, isle)) {
            return CANNOT;
        }
        int oars = course.told.oarsBetween(course.place[person], isle);
        return course.addAct(10 * person + isle) ? oars : CANNOT;
    }

    public int says(int promise) {
        if (!course.told.isPromise(promise)) {
            return NO_SUCH;
        }
        if (!course.canSay(promise) || !course.addAct(SAY_ACT + promise)) {
            return CANNOT;
        }
        return course.told.worthBy(course.lastsAt(course.moon), promise, course.moon);
    }

    public int passes() {
        if (course.told.lines == 0) {
            return NO_SUCH;
        }
        if (course.moon >= LAST_MOON || !course.addAct(MOON_ACT)) {
            return CANNOT;
        }
        return course.moon;
    }

    public int undo() {
        Told told = course.told;
        if (told.lines == 0) {
            return NO_SUCH;
        }
        if (told.actCount == 0) {
            return CANNOT;
        }
        told.actCount--;
        course.replay();
        return told.actCount;
    }

    public int anew() {
        Told told = course.told;
        if (told.lines == 0) {
            return NO_SUCH;
        }
        int were = told.actCount;
        told.actCount = 0;
        course.replay();
        return were;
    }

    public int act(int i) {
        Told told = course.told;
        if (told.lines == 0) {
            return NO_SUCH;
        }
        return i < 0 || i >= told.actCount ? NONE : told.acts[i];
    }

    public int can() {
        if (course.told.lines == 0) {
            return NO_SUCH;
        }
        int bits = 0;
        for (int p = 0; p < course.told.promises; p++) {
            if (course.canSay(p)) {
                bits |= 1 << p;
            }
        }
        return bits;
    }

    public int sails(int person) {
        if (!course.told.isPerson(person)) {
            return NO_SUCH;
        }
        int bits = 0;
        for (int isle = 0; isle < course.told.isles; isle++) {
            if (course.canRow(person, isle)) {
                bits |= 1 << isle;
            }
        }
        return bits;
    }

    public int keeps(int person, int n) {
        if (!canPlan(person, n)) {
            return NO_SUCH;
        }
        planner.prepare(course, person, n);
        return planner.leastOars();
    }

    public int plan(int person, int n, int i) {
        if (!canPlan(person, n)) {
            return NO_SUCH;
        }
        if (i < 0 || i >= n) {
            return NONE;
        }
        planner.prepare(course, person, n);
        return planner.leastOars() == NONE ? NONE : planner.isleOfFirst(i);
    }

    public int lets(int person, int n) {
        if (!canPlan(person, n)) {
            return NO_SUCH;
        }
        planner.prepare(course, person, n);
        return Integer.bitCount(planner.leastFallen());
    }

    public int fallen(int person, int n) {
        if (!canPlan(person, n)) {
            return NO_SUCH;
        }
        planner.prepare(course, person, n);
        return planner.leastFallen();
    }

    public long plans(int person, int n) {
        if (!canPlan(person, n)) {
            return NO_SUCH;
        }
        planner.prepare(course, person, n);
        return planner.countPlans();
    }

    public int love(int promise, int v, int n) {
        if (!canLove(promise, v, n)) {
            return NO_SUCH;
        }
        planner.seekLove(course, promise, v, n);
        return planner.loveOars;
    }

    public int when(int promise, int v, int n) {
        if (!canLove(promise, v, n)) {
            return NO_SUCH;
        }
        planner.seekLove(course, promise, v, n);
        return planner.loveMoon;
    }

    public int joins(int promise, int other) {
        Told told = course.told;
        if (!told.isPromise(promise) || !told.isPromise(other) || promise == other) {
            return NO_SUCH;
        }
        return course.gainByJoin(promise, other);
    }

    public int joined() {
        if (course.told.lines == 0) {
            return NO_SUCH;
        }
        int best = NONE;
        int most = CANNOT;
        for (int p = 0; p < course.told.promises; p++) {
            for (int q = p + 1; q < course.told.promises; q++) {
                int gain = course.gainByJoin(p, q);
                if (gain > most) {
                    most = gain;
                    best = 10 * p + q;
                }
            }
        }
        return best;
    }

    public int ring(int moon) {
        if (!isToldMoon(moon)) {
            return NO_SUCH;
        }
        ledger.fill(course, moon);
        ledger.seekRing();
        return ledger.ringWorth;
    }

    public int ringed(int moon, int i) {
        if (!isToldMoon(moon)) {
            return NO_SUCH;
        }
        if (i < 0 || i > 2) {
            return NONE;
        }
        ledger.fill(course, moon);
        ledger.seekRing();
        return ledger.ringWorth == 0 ? NONE : ledger.ringPeople[i];
    }

    public int strikes(int a, int b, int c, int moon) {
        if (!arePair(a, b) || !arePair(b, c) || !arePair(c, a) || !isMoon(moon)) {
            return NO_SUCH;
        }
        ledger.fill(course, moon);
        return ledger.ringOf(a, b, c);
    }

    public int weighed(int slot, int promise) {
        int state = putOnScales(slot, promise);
        if (state != 0) {
            return state;
        }
        scales.survey();
        return scales.ways;
    }

    public int must(int slot, int promise, int what) {
        if (what != 0 && what != 1) {
            return NO_SUCH;
        }
        int state = putOnScales(slot, promise);
        if (state != 0) {
            return state;
        }
        scales.survey();
        return what == 0 ? scales.inAll : scales.inSome;
    }

    public int times(int slot, int promise) {
        int state = putOnScales(slot, promise);
        if (state != 0) {
            return state;
        }
        scales.survey();
        return scales.fewest;
    }

    public int weigh(int slot, int promise) {
        int state = putOnScales(slot, promise);
        if (state != 0) {
            return state;
        }
        scales.survey();
        return scales.bestMoon();
    }

    public int said(int slot, int promise) {
        int state = putOnScales(slot, promise);
        return state != 0 ? state : scales.firstMoons();
    }

    public int span(int slot, int promise, int what) {
        if (what != 0 && what != 1) {
            return NO_SUCH;
        }
        int state = putOnScales(slot, promise);
        return state != 0 ? state : scales.fullBound(what);
    }

    public int wins(int slot) {
        int state = putInThreat(slot);
        if (state != 0) {
            return state;
        }
        return threat.total() != 0 ? 1 : 0;
    }

    public int turn(int slot) {
        int state = putInThreat(slot);
        return state != 0 ? state : threat.winningTurn();
    }

    public int drawn(int seed, int n, int promise) {
        if (!canDraw(seed, n, promise)) {
            return NO_SUCH;
        }
        years.pass(course, seed, n, promise);
        return years.worthAtLast;
    }

    public int often(int seed, int n, int promise) {
        if (!canDraw(seed, n, promise)) {
            return NO_SUCH;
        }
        years.pass(course, seed, n, promise);
        return years.sayings;
    }

    public int lucky(int seed, int m, int n, int promise) {
        if (!canDraw(seed, n, promise) || m < 1 || m > MOST_SEEDS) {
            return NO_SUCH;
        }
        int found = 0;
        for (int i = 0; i < m; i++) {
            years.pass(course, seed + i, n, promise);
            if (2 * years.worthAtLast >= course.told.full[promise]) {
                found++;
            }
        }
        return found;
    }

    public int promises(int person, int other, int worth) {
        Told told = course.told;
        if (!arePair(person, other) || worth < 1 || worth > MOST_WORTH) {
            return NO_SUCH;
        }
        if (told.actCount > 0) {
            return CANNOT;
        }
        if (told.promises >= MOST_PROMISES) {
            return TOO_MANY;
        }
        told.addPromise(person, other, worth, course.moon);
        return told.promises - 1;
    }

    public int shuts(int isle, int moon, int is) {
        Told told = course.told;
        if (!told.isIsle(isle) || !isMoon(moon) || is < 0 || is > 1) {
            return NO_SUCH;
        }
        if (told.actCount > 0) {
            return CANNOT;
        }
        int was = told.isShut(isle, moon) ? 1 : 0;
        told.setShut(isle, moon, is == 1);
        return was;
    }

    public int tends(int person, int n) {
        if (!course.told.isPerson(person) || n < 0 || n > MOST_TENDS) {
            return NO_SUCH;
        }
        int was = course.told.tending[person];
        course.told.tending[person] = n;
        return was;
    }

    public int count(int what) {
        Told told = course.told;
        switch (what) {
            case 0: return told.isles;
            case 1: return told.people;
            case 2: return told.promises;
            case 3: return told.countSeas();
            case 4: return told.countShut();
            case 5: return told.actCount;
            case 6: return told.lines;
            case 7: return reader.length;
            case 8: return told.moon;
            case 9: return slots.countTaken();
            default: return NONE;
        }
    }

    public int image(int k) {
        if (k < 0 || k >= IMAGES) {
            return NO_SUCH;
        }
        if (images[k] == null) {
            images[k] = new Told();
        }
        images[k].copyFrom(course.told);
        return 0;
    }

    public int back(int k) {
        if (k < 0 || k >= IMAGES) {
            return NO_SUCH;
        }
        if (images[k] == null) {
            return NOTHING;
        }
        course.told.copyFrom(images[k]);
        course.replay();
        return 0;
    }

    public int row(int slot, int width, int n) {
        if (!slots.isSlot(slot) || width < 0 || width >= WIDTHS || n > MOST_NUMBERS) {
            return NO_SUCH;
        }
        if (n < 0) {
            return TOO_MANY;
        }
        slots.lay(slot, width, n);
        return 0;
    }

    public int write(int slot, int i, long v) {
        if (!slots.isSlot(slot)) {
            return NO_SUCH;
        }
        if (!slots.isTaken(slot)) {
            return NOTHING;
        }
        if (i < 0 || i >= slots.lengths[slot]) {
            return BEYOND;
        }
        slots.put(slot, i, v);
        return 0;
    }

    public int paste(int slot, int i, int to, int k, int n) {
        if (!slots.isSlot(slot) || !slots.isSlot(to)) {
            return NO_SUCH;
        }
        if (!slots.isTaken(slot) || !slots.isTaken(to)) {
            return NOTHING;
        }
        if (slots.widths[slot] != slots.widths[to]) {
            return OTHER_WIDTH;
        }
        if (!slots.holds(slot, i, n) || !slots.holds(to, k, n)) {
            return BEYOND;
        }
        slots.move(slot, i, to, k, n);
        return 0;
    }

    private static boolean isMoon(int moon) {
        return moon >= 0 && moon <= LAST_MOON;
    }

    private boolean isToldMoon(int moon) {
        return course.told.lines > 0 && isMoon(moon);
    }

    private boolean arePair(int person, int other) {
        return course.told.isPerson(person) && course.told.isPerson(other) && person != other;
    }

    private boolean canPlan(int person, int n) {
        return course.told.isPerson(person) && n >= 1 && n <= MOST_PLANNED
            && course.moon + n <= LAST_MOON;
    }

    private boolean canLove(int promise, int v, int n) {
        return course.told.isPromise(promise) && v >= 1 && n >= 0 && n <= MOST_PLANNED
            && course.moon + n <= LAST_MOON;
    }

    private boolean canDraw(int seed, int n, int promise) {
        return course.told.isPromise(promise) && seed >= 0 && seed <= MOST_SEED
            && n >= 1 && n <= MOST_YEARS && course.moon + n <= LAST_MOON;
    }

    /** 0, or what a call answers that can't weigh with this slot and promise. */
    private int putOnScales(int slot, int promise) {
        Told told = course.told;
        if (!slots.isSlot(slot) || !told.isPromise(promise) || told.base[promise] != NONE) {
            return NO_SUCH;
        }
        if (!slots.isTaken(slot)) {
            return NOTHING;
        }
        return scales.load(told, promise, slots, slot) ? 0 : NO_SUCH;
    }

    /** 0, or what a call answers that can't play with this slot. */
    private int putInThreat(int slot) {
        if (!slots.isSlot(slot)) {
            return NO_SUCH;
        }
        if (!slots.isTaken(slot)) {
            return NOTHING;
        }
        return threat.load(slots, slot) ? 0 : NO_SUCH;
    }

    /** Halving once and rounding up, so often, is halving all at once and rounding up. */
    private static int halved(int full, int often) {
        if (often >= HALVED_AWAY) {
            return 1;
        }
        return full + (1 << often) - 1 >> often;
    }

    /** What the text told, and the acts done since: all that an image keeps. */
    private static final class Told {
        int lines;
        int isles;
        int moon;
        int people;
        int promises;
        int actCount;
        final int[] seas = new int[MOST_ISLES * MOST_ISLES];
        /** Two rows of bits for each isle: of the first fifty moons, of the others. */
        final long[] shut = new long[2 * MOST_ISLES];
        final int[] home = new int[MOST_PEOPLE];
        final int[] death = new int[MOST_PEOPLE];
        final int[] tending = new int[MOST_PEOPLE];
        final int[] ower = new int[MOST_PROMISES];
        final int[] owee = new int[MOST_PROMISES];
        final int[] full = new int[MOST_PROMISES];
        final int[] first = new int[MOST_PROMISES];
        final int[] drunk = new int[MOST_PROMISES];
        final int[] base = new int[MOST_PROMISES];
        final int[] acts = new int[MOST_ACTS];

        void clear() {
            lines = 0;
            isles = 0;
            moon = 0;
            people = 0;
            promises = 0;
            actCount = 0;
            Arrays.fill(seas, 0);
            Arrays.fill(shut, 0L);
        }

        void copyFrom(Told other) {
            lines = other.lines;
            isles = other.isles;
            moon = other.moon;
            people = other.people;
            promises = other.promises;
            actCount = other.actCount;
            System.arraycopy(other.seas, 0, seas, 0, seas.length);
            System.arraycopy(other.shut, 0, shut, 0, shut.length);
            System.arraycopy(other.home, 0, home, 0, MOST_PEOPLE);
            System.arraycopy(other.death, 0, death, 0, MOST_PEOPLE);
            System.arraycopy(other.tending, 0, tending, 0, MOST_PEOPLE);
            System.arraycopy(other.ower, 0, ower, 0, MOST_PROMISES);
            System.arraycopy(other.owee, 0, owee, 0, MOST_PROMISES);
            System.arraycopy(other.full, 0, full, 0, MOST_PROMISES);
            System.arraycopy(other.first, 0, first, 0, MOST_PROMISES);
            System.arraycopy(other.drunk, 0, drunk, 0, MOST_PROMISES);
            System.arraycopy(other.base, 0, base, 0, MOST_PROMISES);
            System.arraycopy(other.acts, 0, acts, 0, MOST_ACTS);
        }

        boolean isIsle(int isle) {
            return isle >= 0 && isle < isles;
        }

        boolean isPerson(int person) {
            return person >= 0 && person < people;
        }

        boolean isPromise(int promise) {
            return promise >= 0 && promise < promises;
        }

        void addPerson(int isle) {
            home[people] = isle;
            death[people] = NONE;
            tending[people] = 0;
            people++;
        }

        void addPromise(int from, int to, int worth, int moon) {
            ower[promises] = from;
            owee[promises] = to;
            full[promises] = worth;
            first[promises] = moon;
            drunk[promises] = 0;
            base[promises] = NONE;
            promises++;
        }

        void laySea(int isle, int other, int oars) {
            seas[isle * MOST_ISLES + other] = oars;
            seas[other * MOST_ISLES + isle] = oars;
        }

        int oarsBetween(int isle, int other) {
            return seas[isle * MOST_ISLES + other];
        }

        int countSeas() {
            int found = 0;
            for (int i = 0; i < seas.length; i++) {
                if (seas[i] > 0) {
                    found++;
                }
            }
            // Each sea stands there once for either way.
            return found / 2;
        }

        boolean isShut(int isle, int moon) {
            return (shut[2 * isle + moon / 50] >> moon % 50 & 1L) != 0;
        }

        void setShut(int isle, int moon, boolean is) {
            long bit = 1L << moon % 50;
            int at = 2 * isle + moon / 50;
            shut[at] = is ? shut[at] | bit : shut[at] & ~bit;
        }

        int countShut() {
            int found = 0;
            for (int i = 0; i < shut.length; i++) {
                found += Long.bitCount(shut[i]);
            }
            return found;
        }

        boolean lives(int person, int moon) {
            return death[person] == NONE || moon < death[person];
        }

        /** Both can be party to a saying, by what is told of their lives. */
        boolean bothLive(int promise, int moon) {
            return lives(ower[promise], moon) && lives(owee[promise], moon);
        }

        /** A sea to row, 0 to stay, NONE: neither; by seas, lives and harbours. */
        int oarsOfLeg(int person, int isle, int other, int moon) {
            if (isle == other) {
                return 0;
            }
            int oars = oarsBetween(isle, other);
            if (oars == 0 || !lives(person, moon) || isShut(isle, moon) || isShut(other, moon)) {
                return NONE;
            }
            return oars;
        }

        int ownHalvings(int promise, int last, int moon) {
            int halvings = moon - last;
            if (last == first[promise]) {
                halvings += drunk[promise];
            }
            int dies = death[ower[promise]];
            return dies == NONE || moon < dies ? halvings : halvings + moon - dies;
        }

        /** With the last moons (NONE: none) in which the promises were said. */
        int halvingsBy(int[] lasts, int promise, int moon) {
            int all = 0;
            int at = promise;
            for (int depth = 0; depth < MOST_PROMISES && at != NONE; depth++) {
                if (lasts[at] == NONE) {
                    return NONE;
                }
                all += ownHalvings(at, lasts[at], moon);
                at = base[at];
            }
            return all;
        }

        int worthBy(int[] lasts, int promise, int moon) {
            int halvings = halvingsBy(lasts, promise, moon);
            return halvings == NONE ? 0 : halved(full[promise], halvings);
        }
    }

    /** The tape, and what its text tells or where it fails. */
    private static final class Reader {
        private static final int END = 0;
        private static final int WORD = 1;
        private static final int NUMBER = 2;
        private static final int SIGN = 3;
        private static final int STRANGE = 4;
        /** Above every bound of the text, so that long numbers stay out of them. */
        private static final int HUGE = 100000000;

        private static final int CANNOT_STAND = 1;
        private static final int OUT_OF_BOUNDS = 2;
        private static final int ONE_TOO_MANY = 3;

        final byte[] tape = new byte[MOST_BYTES];
        int length;
        final Told draft = new Told();
        int fault;
        int faultPlace = NONE;
        private int kind;
        private int start;
        private int stop;
        private int value;
        /** The number taken last. */
        private int taken;

        void addFour(int bytes) {
            for (int shift = 24; shift >= 0 && length < MOST_BYTES; shift -= 8) {
                tape[length] = (byte) (bytes >> shift);
                length++;
            }
        }

        boolean readAll() {
            draft.clear();
            fault = 0;
            faultPlace = NONE;
            stop = 0;
            step();
            for (int i = 0; i <= MOST_BYTES && kind != END; i++) {
                if (!takeLine() || !takeSign()) {
                    return false;
                }
                draft.lines++;
            }
            return true;
        }

        private boolean takeLine() {
            boolean opening = isWord("isles");
            if (opening != (draft.lines == 0)) {
                return fail(CANNOT_STAND);
            }
            if (opening) {
                return takeIsles();
            }
            if (isWord("sea")) {
                return takeSea();
            }
            if (isWord("person")) {
                return takePerson();
            }
            if (isWord("promise")) {
                return takePromise() && takePromiseMarks(draft.promises - 1);
            }
            return takeShut();
        }

        private boolean takeIsles() {
            step();
            if (!takeNumber(1, MOST_ISLES, NONE)) {
                return false;
            }
            draft.isles = taken;
            if (!takeWord("at") || !takeNumber(0, LAST_MOON, NONE)) {
                return false;
            }
            draft.moon = taken;
            return true;
        }

        private boolean takeSea() {
            step();
            if (!takeNumber(0, draft.isles - 1, NONE)) {
                return false;
            }
            int isle = taken;
            if (!takeNumber(0, draft.isles - 1, isle)) {
                return false;
            }
            int other = taken;
            if (!takeWord("oars") || !takeNumber(1, MOST_OARS, NONE)) {
                return false;
            }
            draft.laySea(isle, other, taken);
            return true;
        }

        private boolean takePerson() {
            if (draft.people >= MOST_PEOPLE) {
                return fail(ONE_TOO_MANY);
            }
            step();
            if (!takeWord("on") || !takeNumber(0, draft.isles - 1, NONE)) {
                return false;
            }
            draft.addPerson(taken);
            int person = draft.people - 1;
            boolean dying = false;
            boolean tending = false;
            for (int i = 0; i < 2 && kind == WORD; i++) {
                if (!dying && isWord("dies")) {
                    dying = true;
                    step();
                    if (!takeNumber(0, LAST_MOON, NONE)) {
                        return false;
                    }
                    draft.death[person] = taken;
                } else if (!tending && isWord("tends")) {
                    tending = true;
                    step();
                    if (!takeNumber(0, MOST_TENDS, NONE)) {
                        return false;
                    }
                    draft.tending[person] = taken;
                } else {
                    return fail(CANNOT_STAND);
                }
            }
            return true;
        }

        private boolean takePromise() {
            if (draft.promises >= MOST_PROMISES) {
                return fail(ONE_TOO_MANY);
            }
            step();
            if (!takeNumber(0, draft.people - 1, NONE)) {
                return false;
            }
            int from = taken;
            if (!takeWord("to") || !takeNumber(0, draft.people - 1, from)) {
                return false;
            }
            int to = taken;
            if (!takeWord("worth") || !takeNumber(1, MOST_WORTH, NONE)) {
                return false;
            }
            int worth = taken;
            if (!takeWord("said") || !takeNumber(0, draft.moon, NONE)) {
                return false;
            }
            draft.addPromise(from, to, worth, taken);
            return true;
        }

        private boolean takePromiseMarks(int promise) {
            for (int i = 0; i < 2 && kind == WORD; i++) {
                if (draft.drunk[promise] == 0 && isWord("drunk")) {
                    draft.drunk[promise] = 1;
                    step();
                } else if (draft.base[promise] == NONE && isWord("on")) {
                    step();
                    if (!takeNumber(0, promise - 1, NONE)) {
                        return false;
                    }
                    draft.base[promise] = taken;
                } else {
                    return fail(CANNOT_STAND);
                }
            }
            return true;
        }

        private boolean takeShut() {
            if (!takeWord("shut") || !takeNumber(0, draft.isles - 1, NONE)) {
                return false;
            }
            int isle = taken;
            if (!takeNumber(0, LAST_MOON, NONE)) {
                return false;
            }
            draft.setShut(isle, taken, true);
            return true;
        }

        private boolean takeWord(String word) {
            if (!isWord(word)) {
                return fail(CANNOT_STAND);
            }
            step();
            return true;
        }

        private boolean takeNumber(int least, int most, int barred) {
            if (kind != NUMBER) {
                return fail(CANNOT_STAND);
            }
            if (value < least || value > most || value == barred) {
                return fail(OUT_OF_BOUNDS);
            }
            taken = value;
            step();
            return true;
        }

        private boolean takeSign() {
            if (kind != SIGN) {
                return fail(CANNOT_STAND);
            }
            step();
            return true;
        }

        private boolean fail(int what) {
            fault = what;
            faultPlace = start;
            return false;
        }

        private boolean isWord(String word) {
            if (kind != WORD || stop - start != word.length()) {
                return false;
            }
            for (int i = 0; i < word.length(); i++) {
                if (tape[start + i] != word.charAt(i)) {
                    return false;
                }
            }
            return true;
        }

        /** To the next token: its kind, its bytes from start to stop, its value. */
        private void step() {
            start = stop;
            while (start < length && (tape[start] == ' ' || tape[start] == '\n')) {
                start++;
            }
            stop = start;
            value = 0;
            if (start >= length) {
                kind = END;
            } else if (isLetter(start)) {
                kind = WORD;
                while (stop < length && isLetter(stop)) {
                    stop++;
                }
            } else if (isDigit(start)) {
                kind = NUMBER;
                while (stop < length && isDigit(stop)) {
                    value = Math.min(HUGE, 10 * value + tape[stop] - '0');
                    stop++;
                }
            } else {
                kind = tape[start] == ';' ? SIGN : STRANGE;
                stop++;
            }
        }

        private boolean isLetter(int at) {
            return tape[at] >= 'a' && tape[at] <= 'z';
        }

        private boolean isDigit(int at) {
            return tape[at] >= '0' && tape[at] <= '9';
        }
    }

    /** How things stand behind the acts. */
    private static final class Course {
        final Told told = new Told();
        int moon;
        final int[] place = new int[MOST_PEOPLE];
        final int[] oars = new int[MOST_PEOPLE];
        final int[] rowedIn = new int[MOST_PEOPLE];
        /** Two rows of bits for each promise: said again in the first fifty moons, the others. */
        private final long[] heard = new long[2 * MOST_PROMISES];
        private final int[] lasts = new int[MOST_PROMISES];
        private final int[] worths = new int[MOST_PROMISES];

        void replay() {
            moon = told.moon;
            for (int p = 0; p < told.people; p++) {
                place[p] = told.home[p];
                oars[p] = 0;
                rowedIn[p] = NONE;
            }
            Arrays.fill(heard, 0L);
            for (int i = 0; i < told.actCount; i++) {
                apply(told.acts[i]);
            }
        }

        /** Whether there was room for it. */
        boolean addAct(int code) {
            if (told.actCount >= MOST_ACTS) {
                return false;
            }
            told.acts[told.actCount] = code;
            told.actCount++;
            apply(code);
            return true;
        }

        private void apply(int code) {
            if (code == MOON_ACT) {
                moon++;
            } else if (code >= SAY_ACT) {
                heard[2 * (code - SAY_ACT) + moon / 50] |= 1L << moon % 50;
            } else {
                int person = code / 10;
                int isle = code % 10;
                oars[person] += told.oarsBetween(place[person], isle);
                place[person] = isle;
                rowedIn[person] = moon;
            }
        }

        boolean canRow(int person, int isle) {
            return rowedIn[person] != moon && isle != place[person]
                && told.oarsOfLeg(person, place[person], isle, moon) != NONE;
        }

        boolean canSay(int promise) {
            return place[told.ower[promise]] == place[told.owee[promise]]
                && told.bothLive(promise, moon);
        }

        /** For each promise the last moon, no later than this one, in which it was said. */
        int[] lastsAt(int asked) {
            for (int p = 0; p < told.promises; p++) {
                lasts[p] = lastSaid(p, asked);
            }
            return lasts;
        }

        private int lastSaid(int promise, int asked) {
            int first = told.first[promise];
            if (asked < first) {
                return NONE;
            }
            for (int m = Math.min(asked, moon); m > first; m--) {
                if ((heard[2 * promise + m / 50] >> m % 50 & 1L) != 0) {
                    return m;
                }
            }
            return first;
        }

        int[] worthsAt(int asked) {
            lastsAt(asked);
            for (int p = 0; p < told.promises; p++) {
                worths[p] = told.worthBy(lasts, p, asked);
            }
            return worths;
        }

        /** By how much more two promises are worth when joined now; CANNOT. */
        int gainByJoin(int promise, int other) {
            if (told.ower[promise] != told.ower[other] || told.owee[promise] != told.owee[other]
                || !standsAlone(promise) || !standsAlone(other)) {
                return CANNOT;
            }
            lastsAt(moon);
            int often = told.halvingsBy(lasts, promise, moon);
            if (often != told.halvingsBy(lasts, other, moon)
                || often < 1 || often > MOST_JOINED_HALVINGS) {
                return CANNOT;
            }
            int one = told.full[promise];
            int two = told.full[other];
            return halved(one + two, often - 1) - halved(one, often) - halved(two, often);
        }

        private boolean standsAlone(int promise) {
            if (told.base[promise] != NONE) {
                return false;
            }
            for (int p = 0; p < told.promises; p++) {
                if (told.base[p] == promise) {
                    return false;
                }
            }
            return true;
        }
    }

    /** Who owes whom how much in a moon. */
    private static final class Ledger {
        private final int[] debts = new int[MOST_PEOPLE * MOST_PEOPLE];
        private int people;
        int ringWorth;
        final int[] ringPeople = new int[3];

        void fill(Course course, int moon) {
            Told told = course.told;
            int[] worths = course.worthsAt(moon);
            people = told.people;
            Arrays.fill(debts, 0);
            for (int p = 0; p < told.promises; p++) {
                debts[told.ower[p] * MOST_PEOPLE + told.owee[p]] += worths[p];
            }
        }

        int debt(int person, int other) {
            return debts[person * MOST_PEOPLE + other];
        }

        int owing(int person) {
            int all = 0;
            for (int other = 0; other < people; other++) {
                all += debt(person, other);
            }
            return all;
        }

        int due(int person) {
            int all = 0;
            for (int other = 0; other < people; other++) {
                all += debt(other, person);
            }
            return all;
        }

        int first() {
            int best = NONE;
            int most = 0;
            for (int person = 0; person < people; person++) {
                int rest = due(person) - owing(person);
                if (best == NONE || rest > most) {
                    most = rest;
                    best = person;
                }
            }
            return best;
        }

        int ringOf(int a, int b, int c) {
            return Math.min(debt(a, b), Math.min(debt(b, c), debt(c, a)));
        }

        void seekRing() {
            ringWorth = 0;
            for (int a = 0; a < people; a++) {
                for (int b = 0; b < people; b++) {
                    for (int c = 0; c < people; c++) {
                        if (a != b && b != c && c != a && ringOf(a, b, c) > ringWorth) {
                            ringWorth = ringOf(a, b, c);
                            ringPeople[0] = a;
                            ringPeople[1] = b;
                            ringPeople[2] = c;
                        }
                    }
                }
            }
        }
    }

    /** Rows of isles for the moons behind the one now, of one person. */
    private static final class Planner {
        private static final int LEGS = MOST_ISLES * MOST_ISLES;

        private int isles;
        private int length;
        private int start;
        /** The promises to be kept, as bits. */
        private int asked;
        /** Oars of each leg in each of the moons; NONE: it can't be rowed. */
        private final int[] legs = new int[MOST_PLANNED * LEGS];
        /** The promises that are not kept in a moon with this leg, as bits. */
        private final int[] missed = new int[MOST_PLANNED * LEGS];
        /** The promises said on an isle in a moon, as bits. */
        private final int[] spoken = new int[MOST_PLANNED * MOST_ISLES];
        private final int[] least = new int[(MOST_PLANNED + 1) * MOST_ISLES];
        private final long[] ways = new long[(MOST_PLANNED + 1) * MOST_ISLES];
        int loveOars;
        int loveMoon;

        void prepare(Course course, int person, int n) {
            layLegs(course, person, n);
            laySpoken(course, person);
            layMissed(course, person);
        }

        private void layLegs(Course course, int person, int n) {
            isles = course.told.isles;
            length = n;
            start = course.place[person];
            for (int k = 0; k < n; k++) {
                for (int a = 0; a < isles; a++) {
                    for (int b = 0; b < isles; b++) {
                        legs[leg(k, a, b)] = course.told.oarsOfLeg(person, a, b, course.moon + 1 + k);
                    }
                }
            }
        }

        private void laySpoken(Course course, int person) {
            Told told = course.told;
            Arrays.fill(spoken, 0);
            for (int p = 0; p < told.promises; p++) {
                for (int k = 0; k < length; k++) {
                    if (told.ower[p] == person && told.bothLive(p, course.moon + 1 + k)) {
                        spoken[k * MOST_ISLES + course.place[told.owee[p]]] |= 1 << p;
                    }
                }
            }
        }

        private void layMissed(Course course, int person) {
            Told told = course.told;
            int[] lasts = course.lastsAt(course.moon);
            int fresh = 0;
            asked = 0;
            for (int p = 0; p < told.promises; p++) {
                if (told.ower[p] == person && told.ownHalvings(p, lasts[p], course.moon) <= 1) {
                    asked |= 1 << p;
                }
                if (told.ownHalvings(p, lasts[p], course.moon + 1) <= 1) {
                    fresh |= 1 << p;
                }
            }
            for (int k = 0; k < length; k++) {
                for (int a = 0; a < isles; a++) {
                    // Who said it in the moon before is dead from this moon on at the earliest,
                    // which is no halving yet.
                    int carried = k == 0 ? fresh : spoken[(k - 1) * MOST_ISLES + a];
                    for (int b = 0; b < isles; b++) {
                        missed[leg(k, a, b)] = asked & ~(carried | spoken[k * MOST_ISLES + b]);
                    }
                }
            }
        }

        private static int leg(int k, int a, int b) {
            return k * LEGS + a * MOST_ISLES + b;
        }

        private boolean isKeeping(int leg) {
            return legs[leg] != NONE && missed[leg] == 0;
        }

        /** Fills the least oars from each isle in each moon to the end; NONE: it can't. */
        int leastOars() {
            for (int a = 0; a < isles; a++) {
                least[length * MOST_ISLES + a] = 0;
            }
            for (int k = length - 1; k >= 0; k--) {
                for (int a = 0; a < isles; a++) {
                    least[k * MOST_ISLES + a] = leastFrom(k, a);
                }
            }
            return least[start];
        }

        private int leastFrom(int k, int a) {
            int best = NONE;
            for (int b = 0; b < isles; b++) {
                int all = oarsBy(k, a, b);
                if (all != NONE && (best == NONE || all < best)) {
                    best = all;
                }
            }
            return best;
        }

        private int oarsBy(int k, int a, int b) {
            int leg = leg(k, a, b);
            int rest = least[(k + 1) * MOST_ISLES + b];
            return rest == NONE || !isKeeping(leg) ? NONE : rest + legs[leg];
        }

        /** Only behind leastOars, if there is a plan. */
        int isleOfFirst(int i) {
            int at = start;
            for (int k = 0; k <= i; k++) {
                int next = at;
                for (int b = isles - 1; b >= 0; b--) {
                    if (oarsBy(k, at, b) == least[k * MOST_ISLES + at]) {
                        next = b;
                    }
                }
                at = next;
            }
            return at;
        }

        long countPlans() {
            for (int a = 0; a < isles; a++) {
                ways[length * MOST_ISLES + a] = 1;
            }
            for (int k = length - 1; k >= 0; k--) {
                for (int a = 0; a < isles; a++) {
                    long all = 0;
                    for (int b = 0; b < isles; b++) {
                        if (isKeeping(leg(k, a, b))) {
                            all += ways[(k + 1) * MOST_ISLES + b];
                        }
                    }
                    ways[k * MOST_ISLES + a] = all;
                }
            }
            return ways[start];
        }

        int leastFallen() {
            int best = asked;
            int fewest = Integer.bitCount(asked);
            for (int set = 0; set < asked; set++) {
                int size = Integer.bitCount(set);
                if ((set & ~asked) == 0 && size < fewest && canKeep(asked & ~set)) {
                    best = set;
                    fewest = size;
                }
            }
            return best;
        }

        private boolean canKeep(int set) {
            int here = 1 << start;
            for (int k = 0; k < length && here != 0; k++) {
                int next = 0;
                for (int a = 0; a < isles; a++) {
                    if ((here >> a & 1) != 0) {
                        next |= reached(k, a, set);
                    }
                }
                here = next;
            }
            return here != 0;
        }

        private int reached(int k, int a, int set) {
            int found = 0;
            for (int b = 0; b < isles; b++) {
                int leg = leg(k, a, b);
                if (legs[leg] != NONE && (missed[leg] & set) == 0) {
                    found |= 1 << b;
                }
            }
            return found;
        }

        /** Finds loveOars and loveMoon, both NONE if it can't be. */
        void seekLove(Course course, int promise, int v, int n) {
            Told told = course.told;
            int last = course.moon + n;
            int[] lasts = course.lastsAt(course.moon);
            loveOars = NONE;
            loveMoon = NONE;
            if (told.worthBy(lasts, promise, last) >= v) {
                loveOars = 0;
                loveMoon = course.moon;
                return;
            }
            layLegs(course, told.ower[promise], n);
            layReach();
            int goal = course.place[told.owee[promise]];
            for (int k = 0; k <= n; k++) {
                int oars = least[k * MOST_ISLES + goal];
                lasts[promise] = course.moon + k;
                if (oars != NONE && told.bothLive(promise, course.moon + k)
                    && told.worthBy(lasts, promise, last) >= v
                    && (loveOars == NONE || oars < loveOars)) {
                    loveOars = oars;
                    loveMoon = course.moon + k;
                }
            }
        }

        /** Fills the least oars by which it is on each isle behind so many moons. */
        private void layReach() {
            for (int a = 0; a < isles; a++) {
                least[a] = a == start ? 0 : NONE;
            }
            for (int k = 0; k < length; k++) {
                for (int b = 0; b < isles; b++) {
                    least[(k + 1) * MOST_ISLES + b] = leastTo(k, b);
                }
            }
        }

        private int leastTo(int k, int b) {
            int best = NONE;
            for (int a = 0; a < isles; a++) {
                int before = least[k * MOST_ISLES + a];
                int oars = legs[leg(k, a, b)];
                if (before != NONE && oars != NONE && (best == NONE || before + oars < best)) {
                    best = before + oars;
                }
            }
            return best;
        }
    }

    /** Weighings of one promise, and the ways in which it can have been said. */
    private static final class Scales {
        private static final int TEN = 10;
        private static final int LAST_FIRST = 30;
        /** Halvings 0 .. 11: ten moons, and one by drink. */
        private static final int HALVINGS = 12;

        private int full;
        private int first;
        private int drunk;
        /** The worth weighed in each moon from its own on; 0: not weighed. */
        private final int[] weights = new int[TEN + 1];
        private boolean clashing;
        int ways;
        int inAll;
        int inSome;
        int fewest;
        /** How many of the ways have so many halvings in a moon. */
        private final int[] tally = new int[(TEN + 1) * HALVINGS];

        /** Whether all numbers are weighings of this promise. */
        boolean load(Told told, int promise, Slots slots, int slot) {
            full = told.full[promise];
            first = told.first[promise];
            drunk = told.drunk[promise];
            clashing = false;
            Arrays.fill(weights, 0);
            int length = slots.lengths[slot];
            if (length % 2 != 0) {
                return false;
            }
            for (int i = 0; i + 1 < length; i += 2) {
                long behind = slots.at(slot, i);
                long worth = slots.at(slot, i + 1);
                if (behind < first || behind > first + TEN || worth < 1 || worth > MOST_WORTH) {
                    return false;
                }
                int at = (int) behind - first;
                clashing = clashing || weights[at] != 0 && weights[at] != worth;
                weights[at] = (int) worth;
            }
            return true;
        }

        void survey() {
            ways = 0;
            inAll = 0;
            inSome = 0;
            fewest = NONE;
            Arrays.fill(tally, 0);
            for (int way = 0; way < 1 << TEN; way++) {
                if (fits(way)) {
                    inAll = ways == 0 ? way : inAll & way;
                    inSome |= way;
                    int size = Integer.bitCount(way);
                    fewest = fewest == NONE ? size : Math.min(fewest, size);
                    ways++;
                    addToTally(way);
                }
            }
        }

        private boolean fits(int way) {
            if (clashing) {
                return false;
            }
            int halvings = drunk;
            for (int d = 0; d <= TEN; d++) {
                halvings = halvingsIn(way, d, halvings);
                if (weights[d] != 0 && weights[d] != halved(full, halvings)) {
                    return false;
                }
            }
            return true;
        }

        /** Halvings in moon d (its own: 0), from those in the moon before. */
        private static int halvingsIn(int way, int d, int before) {
            if (d == 0) {
                return before;
            }
            return (way >> d - 1 & 1) != 0 ? 0 : before + 1;
        }

        private void addToTally(int way) {
            int halvings = drunk;
            for (int d = 0; d <= TEN; d++) {
                halvings = halvingsIn(way, d, halvings);
                tally[d * HALVINGS + halvings]++;
            }
        }

        /** Behind survey. */
        int bestMoon() {
            int best = NONE;
            int least = ways;
            for (int d = 1; d <= TEN; d++) {
                int worst = worstLeft(d);
                if (worst < least) {
                    least = worst;
                    best = first + d;
                }
            }
            return best;
        }

        private int worstLeft(int d) {
            int worst = 0;
            int group = 0;
            for (int h = 0; h < HALVINGS; h++) {
                // More halvings never weigh more, so equal weights stand side by side.
                if (h > 0 && halved(full, h) != halved(full, h - 1)) {
                    group = 0;
                }
                group += tally[d * HALVINGS + h];
                worst = Math.max(worst, group);
            }
            return worst;
        }

        int firstMoons() {
            int bits = 0;
            for (int moon = 0; moon <= LAST_FIRST; moon++) {
                if (fitsFirst(moon)) {
                    bits |= 1 << moon;
                }
            }
            return bits;
        }

        private boolean fitsFirst(int moon) {
            if (clashing) {
                return false;
            }
            for (int d = 0; d <= TEN; d++) {
                int since = first + d - moon;
                if (weights[d] != 0
                    && (since < 0 || weights[d] != halved(full, since + drunk))) {
                    return false;
                }
            }
            return true;
        }

        int fullBound(int what) {
            long low = 1;
            long high = clashing ? 0 : MOST_WORTH;
            for (int d = 0; d <= TEN; d++) {
                if (weights[d] != 0) {
                    long worth = weights[d];
                    low = Math.max(low, (worth - 1 << d + drunk) + 1);
                    high = Math.min(high, worth << d + drunk);
                }
            }
            if (low > high) {
                return NONE;
            }
            return (int) (what == 0 ? low : high);
        }
    }

    /** The game of taking one and halving. */
    private static final class Threat {
        private static final int MOST_HEAPS = 8;
        private static final int MOST_HEAP = 99;

        private int heaps;
        private final int[] heap = new int[MOST_HEAPS];
        /** The value of a number alone (Sprague and Grundy): 0, who is to turn loses. */
        private final int[] values = new int[MOST_HEAP + 1];

        Threat() {
            for (int n = 1; n <= MOST_HEAP; n++) {
                int free = 0;
                for (int tries = 0; tries < 2; tries++) {
                    if (free == values[n - 1] || free == values[n / 2]) {
                        free++;
                    }
                }
                values[n] = free;
            }
        }

        /** Whether all numbers can be played with. */
        boolean load(Slots slots, int slot) {
            heaps = slots.lengths[slot];
            if (heaps > MOST_HEAPS) {
                heaps = 0;
                return false;
            }
            for (int i = 0; i < heaps; i++) {
                long number = slots.at(slot, i);
                if (number < 0 || number > MOST_HEAP) {
                    return false;
                }
                heap[i] = (int) number;
            }
            return true;
        }

        int total() {
            int all = 0;
            for (int i = 0; i < heaps; i++) {
                all ^= values[heap[i]];
            }
            return all;
        }

        int winningTurn() {
            int all = total();
            for (int i = 0; i < heaps; i++) {
                int others = all ^ values[heap[i]];
                if (heap[i] > 0 && values[heap[i] - 1] == others) {
                    return i;
                }
                if (heap[i] > 0 && values[heap[i] / 2] == others) {
                    return 10 + i;
                }
            }
            return NONE;
        }
    }

    /** Moons in which it is drawn who says what. */
    private static final class Years {
        private final int[] lasts = new int[MOST_PROMISES];
        int worthAtLast;
        int sayings;

        void pass(Course course, int seed, int n, int promise) {
            Told told = course.told;
            System.arraycopy(course.lastsAt(course.moon), 0, lasts, 0, MOST_PROMISES);
            long x = seed;
            sayings = 0;
            for (int moon = course.moon + 1; moon <= course.moon + n; moon++) {
                for (int p = 0; p < told.promises; p++) {
                    if (told.bothLive(p, moon)) {
                        x = 1103515245L * x + 12345L & 0x7fffffffL;
                        if ((x >> 16) % 100 < told.tending[told.ower[p]]) {
                            lasts[p] = moon;
                            sayings += p == promise ? 1 : 0;
                        }
                    }
                }
            }
            worthAtLast = told.worthBy(lasts, promise, course.moon + n);
        }
    }

    /** Four rows of numbers. */
    private static final class Slots {
        private final long[] numbers = new long[SLOTS * MOST_NUMBERS];
        final int[] widths = new int[SLOTS];
        /** NONE: the slot has nothing. */
        final int[] lengths = new int[SLOTS];

        Slots() {
            for (int slot = 0; slot < SLOTS; slot++) {
                lengths[slot] = NONE;
            }
        }

        boolean isSlot(int slot) {
            return slot >= 0 && slot < SLOTS;
        }

        boolean isTaken(int slot) {
            return lengths[slot] != NONE;
        }

        int countTaken() {
            int found = 0;
            for (int slot = 0; slot < SLOTS; slot++) {
                if (isTaken(slot)) {
                    found++;
                }
            }
            return found;
        }

        void lay(int slot, int width, int n) {
            widths[slot] = width;
            lengths[slot] = n;
            for (int i = 0; i < n; i++) {
                numbers[slot * MOST_NUMBERS + i] = 0;
            }
        }

        long at(int slot, int i) {
            return numbers[slot * MOST_NUMBERS + i];
        }

        void put(int slot, int i, long v) {
            numbers[slot * MOST_NUMBERS + i] = cut(v, widths[slot]);
        }

        private static long cut(long v, int width) {
            switch (width) {
                case 0: return (byte) v;
                case 1: return (short) v;
                case 2: return (int) v;
                default: return v;
            }
        }

        boolean holds(int slot, int i, int n) {
            return i >= 0 && n >= 0 && (long) i + n <= lengths[slot];
        }

        void move(int slot, int i, int to, int k, int n) {
            System.arraycopy(numbers, slot * MOST_NUMBERS + i, numbers, to * MOST_NUMBERS + k, n);
        }
    }
}
