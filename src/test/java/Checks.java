import java.nio.charset.StandardCharsets;

/** Counts answers that are as due, prints the others, and ends a test with exit code 1 if there was one. */
final class Checks {
    static final int NULL = -1000011, PLACE = -1000012, KIND = -1000013, SIZE = -1000014, STORE = -1000015;

    private int passed = 0;
    private int failed = 0;

    void due(String what, long got, long want) {
        if (got == want) {
            passed++;
        } else {
            failed++;
            System.out.println(what + " answered " + got + ", due is " + want);
        }
    }

    void isTrue(String what, boolean holds) {
        due(what, holds ? 1 : 0, 1);
    }

    void end() {
        System.out.println(passed + " passed, " + failed + " failed");
        if (failed > 0 || passed == 0) {
            System.exit(1);
        }
    }

    /** Makes a sheet of the items' number and sets them. */
    static void fill(SandDots x, int sheet, int lane, int... items) {
        x.sheet(sheet, lane, items.length);
        for (int i = 0; i < items.length; i++) {
            x.set(sheet, i, items[i]);
        }
    }

    /** Feeds a text, whose characters are 0 to 255, by eight bytes at most. */
    static void feedText(SandDots x, String text) {
        byte[] bytes = text.getBytes(StandardCharsets.ISO_8859_1);
        for (int from = 0; from < bytes.length; from += 8) {
            int n = Math.min(8, bytes.length - from);
            x.feed(word(bytes, from, n), n);
        }
    }

    static long word(byte[] bytes, int from, int n) {
        long w = 0;
        for (int k = 0; k < n; k++) {
            w = w << 8 | bytes[from + k] & 255;
        }
        return w;
    }

    static int read(SandDots x, String text) {
        feedText(x, text);
        return x.rules();
    }
}
