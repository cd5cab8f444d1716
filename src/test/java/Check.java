/** Counts answers that are due, and tells texts to a program. */
final class Check {
    private static int passed = 0;
    private static int failed = 0;

    private Check() {
    }

    static void due(String call, long got, long want) {
        if (got == want) {
            passed++;
        } else {
            failed++;
            System.out.println(call + " answered " + got + ", due is " + want);
        }
    }

    static int tell(MoonPromises x, String text) {
        byte[] padded = new byte[(text.length() + 19) / 20 * 20];
        for (int i = 0; i < text.length(); i++) {
            padded[i] = (byte) text.charAt(i);
        }
        for (int i = 0; i < padded.length; i += 20) {
            x.feed(four(padded, i), four(padded, i + 4), four(padded, i + 8), four(padded, i + 12),
                four(padded, i + 16));
        }
        x.end(text.length());
        return x.isles();
    }

    static int four(byte[] from, int at) {
        int all = 0;
        for (int i = 0; i < 4; i++) {
            all = all << 8 | from[at + i] & 255;
        }
        return all;
    }

    /** A new object with this text, which must be without a fault. */
    static MoonPromises told(String text) {
        MoonPromises x = new MoonPromises();
        if (tell(x, text) < 0) {
            due("isles() of " + text, x.fault(1), MoonPromises.NONE);
        }
        return x;
    }

    static void slot(MoonPromises x, int slot, int width, long... numbers) {
        x.row(slot, width, numbers.length);
        for (int i = 0; i < numbers.length; i++) {
            x.write(slot, i, numbers[i]);
        }
    }

    /** A call with one of its arguments left open. */
    interface Call {
        long of(int n);
    }

    /** Arguments, each with the answer that is due: below a bound, at it, above it. */
    static void edges(String call, Call asked, int... pairs) {
        for (int i = 0; i < pairs.length; i += 2) {
            due(call + " of " + pairs[i], asked.of(pairs[i]), pairs[i + 1]);
        }
    }

    /** All that can be asked of an object without changing it, but for images. */
    static String state(MoonPromises x) {
        StringBuilder all = new StringBuilder();
        for (int what = 0; what < 10; what++) {
            all.append(x.count(what)).append(' ');
        }
        all.append(x.fault(0)).append(' ').append(x.fault(1)).append(' ').append(x.now()).append(' ').append(x.can());
        for (int i = 0; i < x.count(5); i++) {
            all.append(" a").append(x.act(i));
        }
        for (int isle = 0; isle < x.count(0); isle++) {
            for (int other = 0; other < x.count(0); other++) {
                all.append(" s").append(x.sea(isle, other));
            }
            for (int moon = 0; moon < 100; moon++) {
                all.append(x.open(isle, moon));
            }
        }
        for (int p = 0; p < x.count(1); p++) {
            all.append(" p").append(x.person(p, 0)).append(' ').append(x.person(p, 1)).append(' ').append(x.person(p, 2))
                .append(' ').append(x.where(p)).append(' ').append(x.rowed(p)).append(' ').append(x.sails(p));
        }
        for (int p = 0; p < x.count(2); p++) {
            for (int what = 0; what < 6; what++) {
                all.append(" q").append(x.promise(p, what));
            }
            for (int moon = 0; moon < 100; moon++) {
                all.append(' ').append(x.halvings(p, moon));
            }
        }
        for (int slot = 0; slot < 4; slot++) {
            all.append(" w").append(x.wins(slot)).append(' ').append(x.turn(slot)).append(' ').append(x.weighed(slot, 0))
                .append(' ').append(x.span(slot, 0, 0)).append(' ').append(x.span(slot, 0, 1));
        }
        return all.toString();
    }

    /** A call that is refused, and leaves all as it was. */
    static void refused(String call, MoonPromises x, Call asked, int n, int want) {
        String before = state(x);
        due(call + " of " + n, asked.of(n), want);
        due(call + " of " + n + " leaves all", state(x).equals(before) ? 1 : 0, 1);
    }

    static void finish(String test) {
        System.out.println(test + ": " + passed + " passed, " + failed + " failed");
        if (failed > 0) {
            System.exit(1);
        }
    }
}
