/** Counts answers that are due, and tells texts to a program. */
final class Check {
    private static int passed = 0;
    private static int failed = 0;

    private Check() {
    }

    static void due(String call, long got, long want) {
        if (got == want) {
            passed++;
        } else {
            failed++;
            System.out.println(call + " answered " + got + ", due is " + want);
        }
    }

    static int tell(MoonPromises x, String text) {
        byte[] padded = new byte[(text.length() + 19) / 20 * 20];
        for (int i = 0; i < text.length(); i++) {
            padded[i] = (byte) text.charAt(i);
        }
        for (int i = 0; i < padded.length; i += 20) {
            x.feed(four(padded, i), four(padded, i + 4), four(padded, i + 8), four(padded, i + 12),
                four(padded, i + 16));
        }
        x.end(text.length());
        return x.isles();
    }

    static int four(byte[] from, int at) {
        int all = 0;
        for (int i = 0; i < 4; i++) {
            all = all << 8 | from[at + i] & 255;
        }
        return all;
    }

    /** A new object with this text, which must be without a fault. */
    static MoonPromises told(String text) {
        MoonPromises x = new MoonPromises();
        if (tell(x, text) < 0) {
            due("isles() of " + text, x.fault(1), MoonPromises.NONE);
        }
        return x;
    }

    static void slot(MoonPromises x, int slot, int width, long... numbers) {
        x.row(slot, width, numbers.length);
        for (int i = 0; i < numbers.length; i++) {
            x.write(slot, i, numbers[i]);
        }
    }

    static void finish(String test) {
        System.out.println(test + ": " + passed + " passed, " + failed + " failed");
        if (failed > 0) {
            System.exit(1);
        }
    }
}
