import java.lang.reflect.Array;
import java.util.Random;

/** Holds the SLOTS against Java's own rows of byte, short, int and long, seen through wins() and weighed(). */
public final class RowsTest {
    private static final Class<?>[] WIDTHS = {byte.class, short.class, int.class, long.class};
    private static final long[] NUMBERS = {0, 1, 5, 6, 15, 16, 99, 100, 127, 128, 255, 256, 257, 32767, 32768, 65536,
        65541, 1000000, 1000001, 2147483647L, 2147483648L, 4294967296L, 4294967301L, Long.MAX_VALUE, Long.MIN_VALUE};

    private static final int[] VALUES = values();

    private static final int[] seen = new int[4];

    private final Random random;
    private final MoonPromises x = Check.told("isles 1 at 5;person on 0;person on 0;"
        + "promise 0 to 1 worth 5 said 5;promise 1 to 0 worth 1000000 said 5 drunk;");
    private final Object[] rows = new Object[4];

    private RowsTest(int seed) {
        random = new Random(seed);
    }

    public static void main(String[] args) {
        for (int run = 0; run < 1500; run++) {
            RowsTest one = new RowsTest(run);
            for (int call = 0; call < 40; call++) {
                one.change("run " + run + ", call " + call + ": ");
                one.hold("run " + run + ", call " + call + ": ");
            }
        }
        for (int i = 0; i < 4; i++) {
            Check.due("rows enough that lose, win, fit, don't: " + i, seen[i] > 500 ? 1 : 0, 1);
        }
        Check.finish("RowsTest");
    }

    private boolean isSlot(int slot) {
        return slot >= 0 && slot < 4;
    }

    private int length(int slot) {
        return rows[slot] == null ? -1 : Array.getLength(rows[slot]);
    }

    private void change(String at) {
        switch (random.nextInt(6)) {
            case 0 -> lay(at);
            case 1 -> paste(at);
            case 2 -> pairs(at);
            default -> write(at);
        }
    }

    private void lay(String at) {
        int slot = random.nextInt(6) - 1;
        int width = random.nextInt(12) == 0 ? random.nextInt(3) * 5 - 6 : random.nextInt(4);
        int n = random.nextInt(8) == 0 ? 58 + random.nextInt(5) : random.nextInt(13) - 2;
        int due = !isSlot(slot) || width < 0 || width > 3 || n > 60 ? -2 : n < 0 ? -3 : 0;
        Check.due(at + "row", x.row(slot, width, n), due);
        if (due == 0) {
            rows[slot] = Array.newInstance(WIDTHS[width], n);
        }
    }

    private void write(String at) {
        int slot = random.nextInt(20) == 0 ? random.nextInt(2) * 5 - 1 : random.nextInt(4);
        int i = isSlot(slot) ? random.nextInt(length(slot) + 4) - 1 : 0;
        long v = random.nextInt(3) == 0 ? NUMBERS[random.nextInt(NUMBERS.length)] * (random.nextInt(4) == 0 ? -1 : 1)
            : random.nextInt(16);
        int due = !isSlot(slot) ? -2 : rows[slot] == null ? -6 : i < 0 || i >= length(slot) ? -7 : 0;
        Check.due(at + "write", x.write(slot, i, v), due);
        if (due == 0) {
            put(rows[slot], i, v);
        }
    }

    /** A row of weighings that one saying or another could leave, as far as the width holds them. */
    private void pairs(String at) {
        int slot = random.nextInt(4);
        int width = random.nextInt(4);
        int n = 2 + 2 * random.nextInt(3);
        rows[slot] = Array.newInstance(WIDTHS[width], n);
        Check.due(at + "row", x.row(slot, width, n), 0);
        int full = random.nextBoolean() ? 5 : 1000000;
        for (int i = 0; i < n; i += 2) {
            int behind = random.nextInt(11);
            int worth = Model.halved(full, random.nextInt(behind + 1));
            put(rows[slot], i, 5 + behind);
            put(rows[slot], i + 1, worth);
            Check.due(at + "write", x.write(slot, i, 5 + behind), 0);
            Check.due(at + "write", x.write(slot, i + 1, worth), 0);
        }
    }

    private static void put(Object row, int i, long v) {
        if (row instanceof byte[] bytes) {
            bytes[i] = (byte) v;
        } else if (row instanceof short[] shorts) {
            shorts[i] = (short) v;
        } else if (row instanceof int[] ints) {
            ints[i] = (int) v;
        } else {
            ((long[]) row)[i] = v;
        }
    }

    /** Java's own copying tells what is due. */
    private void paste(String at) {
        int slot = random.nextInt(20) == 0 ? random.nextInt(2) * 5 - 1 : random.nextInt(4);
        int to = random.nextInt(20) == 0 ? random.nextInt(2) * 5 - 1 : random.nextInt(4);
        int i = place();
        int k = place();
        int n = place();
        int due = 0;
        if (!isSlot(slot) || !isSlot(to)) {
            due = -2;
        } else {
            try {
                System.arraycopy(rows[slot], i, rows[to], k, n);
            } catch (NullPointerException none) {
                due = -6;
            } catch (ArrayStoreException unlike) {
                due = -8;
            } catch (IndexOutOfBoundsException beyond) {
                due = -7;
            }
        }
        Check.due(at + "paste", x.paste(slot, i, to, k, n), due);
    }

    private int place() {
        int draw = random.nextInt(30);
        return draw == 0 ? Integer.MAX_VALUE - random.nextInt(60) : draw == 1 ? Integer.MIN_VALUE : draw % 9 - 1;
    }

    private void hold(String at) {
        int taken = 0;
        for (int slot = 0; slot < 4; slot++) {
            taken += rows[slot] == null ? 0 : 1;
            Check.due(at + "wins", x.wins(slot), wins(slot));
            for (int promise = 0; promise < 2; promise++) {
                Check.due(at + "weighed", x.weighed(slot, promise), weighed(slot, promise));
            }
        }
        Check.due(at + "count(9)", x.count(9), taken);
    }

    private int wins(int slot) {
        if (rows[slot] == null) {
            return -6;
        }
        if (length(slot) > 8) {
            return -2;
        }
        int all = 0;
        for (int i = 0; i < length(slot); i++) {
            long number = Array.getLong(rows[slot], i);
            if (number < 0 || number > 99) {
                return -2;
            }
            all ^= VALUES[(int) number];
        }
        seen[all == 0 ? 0 : 1] += length(slot) > 1 ? 1 : 0;
        return all == 0 ? 0 : 1;
    }

    /** For each number the least value that neither taking one nor halving comes to. */
    private static int[] values() {
        int[] values = new int[100];
        for (int number = 1; number < 100; number++) {
            while (values[number] == values[number - 1] || values[number] == values[number / 2]) {
                values[number]++;
            }
        }
        return values;
    }

    private int weighed(int slot, int promise) {
        if (rows[slot] == null) {
            return -6;
        }
        if (length(slot) % 2 != 0) {
            return -2;
        }
        for (int i = 0; i < length(slot); i += 2) {
            long moon = Array.getLong(rows[slot], i);
            long worth = Array.getLong(rows[slot], i + 1);
            if (moon < 5 || moon > 15 || worth < 1 || worth > 1000000) {
                return -2;
            }
        }
        int found = 0;
        for (int way = 0; way < 1024; way++) {
            found += fits(slot, promise, way) ? 1 : 0;
        }
        seen[found > 0 ? 2 : 3] += length(slot) > 0 ? 1 : 0;
        return found;
    }

    private boolean fits(int slot, int promise, int way) {
        for (int i = 0; i < length(slot); i += 2) {
            int behind = (int) Array.getLong(rows[slot], i) - 5;
            int often = promise;
            for (int d = 1; d <= behind; d++) {
                often = (way >> d - 1 & 1) == 1 ? 0 : often + 1;
            }
            if (Model.halved(promise == 0 ? 5 : 1000000, often) != Array.getLong(rows[slot], i + 1)) {
                return false;
            }
        }
        return true;
    }
}
