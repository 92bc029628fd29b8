/** Reads the items of a sheet, which no call tells. */
final class Items {
    private static final int SCRATCH = 7;

    /**
     * Items of -1 to 15, each drawn as MOTHER 0 with the other MOTHERS 0 and all else torn; others are read as BAD.
     * SHEET 7 is used for it.
     */
    static int[] of(SandDots x, int sheet, int lane, int n) {
        x.sheet(SCRATCH, lane, 16);
        for (int place = 4; place < 16; place++) {
            x.set(SCRATCH, place, -1);
        }
        int[] items = new int[n];
        for (int i = 0; i < n; i++) {
            int copied = x.copy(sheet, i, SCRATCH, 0, 1);
            items[i] = copied == 1 ? mother(x) : copied;
        }
        return items;
    }

    private static int mother(SandDots x) {
        int charts = x.drawing(SCRATCH, 0, 0);
        if (charts == 16) {
            return -1;
        }
        return charts == 1 ? x.drawing(SCRATCH, 0, 1) : charts;
    }
}
