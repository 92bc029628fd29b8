import java.util.Arrays;

/** Sheets (section 1 of the Terms) and promises 1 to 5. */
final class SheetEdges {
    private static final int LEAST = Integer.MIN_VALUE, MOST = Integer.MAX_VALUE;

    static void all(Sentences s) {
        newObject(s);
        sheetsOfTerms(s);
        sheet(s);
        sheetRefused(s);
        set(s);
        setRefused(s);
        copy(s);
        copyWithinOne(s);
        copyRefused(s);
        copyBeyond(s);
        drop(s);
    }

    private static void newObject(Sentences s) {
        s.promise(1, "No SHEETS, RULES, CASES;");
        SandDots x = new SandDots();
        for (int what = 0; what <= 5; what++) {
            s.due("count(" + what + ")", x.count(what), 0);
        }
        for (int sheet = 0; sheet <= 7; sheet++) {
            s.due("no sheet " + sheet, x.drop(sheet), Checks.NULL);
        }
        s.due("no rule 0", x.holds(0), SandDots.BAD);
        s.due("no rule 0 in the book", x.worth(0, 0), SandDots.BAD);
        s.due("no best rule", x.best(), SandDots.NONE);
        s.due("none says a thing", x.said(0), SandDots.NONE);
        s.due("nor is its number told", x.said(1), SandDots.NONE);
        s.due("the first case is the first", x.record(2), 1);
        s.due("the first byte is the first", x.feed(0, 1), 1);
        s.promise(1, "THE CHART of CODE 0.");
        x = new SandDots();
        s.due("count(6)", x.count(6), 0);
        s.due("every place has figure 0", x.seen(0), 16);
        s.due("the code of what was", x.chart(1), 0);
    }

    private static void sheetsOfTerms(Sentences s) {
        s.term("SHEETS 0 .. 7 are missing (at first),");
        for (int sheet = 0; sheet <= 7; sheet++) {
            SandDots x = new SandDots();
            s.due("set of sheet " + sheet, x.set(sheet, 0, 0), Checks.NULL);
            s.due("a sheet " + sheet + " can be made", x.sheet(sheet, 0, 1), 1);
            s.due("the others are still missing", x.count(0), 1);
        }
        s.due("sheet -1", new SandDots().sheet(-1, 0, 1), SandDots.BAD);
        s.due("sheet 8", new SandDots().sheet(8, 0, 1), SandDots.BAD);
        s.term("or have a LANE (0 bytes, 1 shorts, 2 ints) and 0 to 60 ITEMS,");
        for (int lane = 0; lane <= 2; lane++) {
            SandDots x = new SandDots();
            s.due("none of lane " + lane, x.sheet(0, lane, 0), 0);
            s.due("it is not missing", x.count(0), 1);
            s.due("it has no item 0", x.set(0, 0, 0), Checks.PLACE);
            s.due("60 of lane " + lane, x.sheet(0, lane, 60), 60);
            s.due("the last item", x.set(0, 59, 1), 1);
            s.due("none behind it", x.set(0, 60, 1), Checks.PLACE);
            s.due("the width of lane " + lane, x.set(0, 59, 98304), lane == 0 ? 0 : lane == 1 ? -32768 : 98304);
        }
        s.term("0 at first.");
        for (int lane = 0; lane <= 2; lane++) {
            SandDots x = new SandDots();
            x.sheet(0, lane, 60);
            s.isTrue("all 60 items", Arrays.equals(Items.of(x, 0, lane, 60), new int[60]));
        }
    }

    private static void sheet(Sentences s) {
        s.promise(2, "A SHEET of a LANE with n ITEMS, in place of what is there: n.");
        SandDots x = new SandDots();
        for (int sheet = 0; sheet <= 7; sheet++) {
            s.due("sheet " + sheet, x.sheet(sheet, sheet % 3, 60), 60);
        }
        s.due("all eight are there", x.count(0), 8);
        s.due("one more in place of the last", x.sheet(7, 0, 2), 2);
        s.due("they are eight, still", x.count(0), 8);
        s.due("it has the new one's items, not the old one's", x.set(7, 2, 0), Checks.PLACE);
        s.due("and the new one's lane", x.set(7, 1, 128), -128);
        s.due("an empty one in place of a full one", x.sheet(6, 0, 0), 0);
        s.due("the empty one is there", x.drop(6), 0);
        for (int n : new int[] {17, 18, 60}) {
            SandDots y = new SandDots();
            y.sheet(0, 0, 18);
            for (int i = 0; i < 18; i++) {
                y.set(0, i, 9);
            }
            y.sheet(0, 0, n);
            s.isTrue(n + " items in place of 18 are all 0", Arrays.equals(Items.of(y, 0, 0, n), new int[n]));
        }
    }

    private static void sheetRefused(Sentences s) {
        s.promise(2, "BAD: SHEET, LANE, n above 60;");
        SandDots x = new SandDots();
        for (int sheet : new int[] {-1, 8, LEAST, MOST}) {
            s.due("sheet " + sheet, x.sheet(sheet, 0, 1), SandDots.BAD);
            s.due("ahead of SIZE, sheet " + sheet, x.sheet(sheet, 0, -1), SandDots.BAD);
        }
        for (int lane : new int[] {-1, 3, LEAST, MOST}) {
            s.due("lane " + lane, x.sheet(0, lane, 1), SandDots.BAD);
            s.due("ahead of SIZE, lane " + lane, x.sheet(0, lane, -1), SandDots.BAD);
        }
        s.due("61 items", x.sheet(0, 0, 61), SandDots.BAD);
        s.due("the most items", x.sheet(0, 0, MOST), SandDots.BAD);
        s.due("none of them is there", x.count(0), 0);
        s.due("the first sheet, the first lane, 60 items", x.sheet(0, 0, 60), 60);
        s.due("the last sheet, the last lane, 60 items", x.sheet(7, 2, 60), 60);
        s.promise(2, "SIZE.");
        s.due("-1 items", x.sheet(0, 0, -1), Checks.SIZE);
        s.due("the fewest items", x.sheet(7, 2, LEAST), Checks.SIZE);
        s.due("of a missing sheet, too", x.sheet(1, 1, -1), Checks.SIZE);
        s.due("no sheet came", x.count(0), 2);
        s.due("the sheet that is there stays", x.drop(0), 60);
        s.due("0 items are no fewer than none", x.sheet(0, 0, 0), 0);
    }

    private static void set(Sentences s) {
        s.promise(3, "ITEM i becomes v, its lowest bits, as many as the LANE has: what it is then.");
        int[] given = {0, 127, 128, 255, 256, -1, -128, -129, -256, -257, MOST, LEAST};
        int[] bytes = {0, 127, -128, -1, 0, -1, -128, 127, 0, -1, -1, 0};
        wraps(s, 0, given, bytes);
        int[] wider = {32767, 32768, 65535, 65536, 65537, -32768, -32769, -65536, -65537, MOST, LEAST, 128};
        int[] shorts = {32767, -32768, -1, 0, 1, -32768, 32767, 0, -1, -1, 0, 128};
        wraps(s, 1, wider, shorts);
        wraps(s, 2, given, given);
        wraps(s, 2, wider, wider);
        SandDots x = new SandDots();
        x.sheet(0, 0, 18);
        x.set(0, 0, 259);
        x.set(0, 17, 255);
        x.set(0, 8, -241);
        int[] items = Items.of(x, 0, 0, 18);
        s.due("the first item is what was told", items[0], 3);
        s.due("the last item is what was told", items[17], -1);
        s.due("an item between is what was told", items[8], 15);
        items[0] = 0;
        items[8] = 0;
        items[17] = 0;
        s.isTrue("the others stay", Arrays.equals(items, new int[18]));
    }

    private static void wraps(Sentences s, int lane, int[] given, int[] items) {
        SandDots x = new SandDots();
        x.sheet(0, lane, 60);
        for (int k = 0; k < given.length; k++) {
            s.due(given[k] + " in lane " + lane, x.set(0, 59 * (k % 2), given[k]), items[k]);
        }
    }

    private static void setRefused(Sentences s) {
        s.promise(3, "BAD: SHEET;");
        SandDots x = new SandDots();
        for (int sheet : new int[] {-1, 8, LEAST, MOST}) {
            s.due("sheet " + sheet, x.set(sheet, 0, 0), SandDots.BAD);
        }
        s.promise(3, "NULL;");
        s.due("the first sheet, missing", x.set(0, 0, 0), Checks.NULL);
        s.due("the last sheet, missing", x.set(7, 0, 0), Checks.NULL);
        s.due("ahead of PLACE", x.set(0, -1, 0), Checks.NULL);
        x.sheet(0, 0, 1);
        x.drop(0);
        s.due("a dropped sheet", x.set(0, 0, 0), Checks.NULL);
        s.promise(3, "PLACE.");
        for (int n : new int[] {0, 1, 2, 59, 60}) {
            x.sheet(0, 2, n);
            for (int i : new int[] {-1, n, n + 1, LEAST, MOST}) {
                s.due("item " + i + " of " + n, x.set(0, i, 5), Checks.PLACE);
            }
            s.due("the first item of " + n, x.set(0, 0, 5), n == 0 ? Checks.PLACE : 5);
            s.due("the last item of " + n, x.set(0, n - 1, 6), n == 0 ? Checks.PLACE : 6);
        }
    }

    private static void copy(Sentences s) {
        s.promise(4, "n ITEMS of a from i on come to b from j on,");
        SandDots x = numbered(0, 15, 60);
        x.sheet(1, 0, 60);
        s.due("all 60", x.copy(0, 0, 1, 0, 60), 60);
        s.isTrue("all came", Arrays.equals(Items.of(x, 1, 0, 60), numbers(60)));
        x = numbered(0, 15, 20);
        x.sheet(1, 0, 18);
        s.due("the last one to the first", x.copy(0, 19, 1, 0, 1), 1);
        s.due("the first two to the last", x.copy(0, 0, 1, 16, 2), 2);
        s.due("none, from the end to the end", x.copy(0, 20, 1, 18, 0), 0);
        s.due("none, from the beginning to the beginning", x.copy(0, 0, 1, 0, 0), 0);
        int[] due = new int[18];
        due[0] = 19 % 16;
        due[17] = 1;
        s.isTrue("just these came", Arrays.equals(Items.of(x, 1, 0, 18), due));
        s.isTrue("they are still where they were", Arrays.equals(Items.of(x, 0, 0, 20), numbers(20)));
        for (int sheet : new int[] {2, 3}) {
            x.sheet(sheet, 1, 0);
        }
        s.due("none from an empty sheet to an empty one", x.copy(2, 0, 3, 0, 0), 0);
        s.due("nor from an empty sheet to itself", x.copy(2, 0, 2, 0, 0), 0);
    }

    private static int[] numbers(int n) {
        int[] numbers = new int[n];
        for (int i = 0; i < n; i++) {
            numbers[i] = i % 16;
        }
        return numbers;
    }

    private static SandDots numbered(int lane, int mask, int n) {
        SandDots x = new SandDots();
        x.sheet(0, lane, n);
        for (int i = 0; i < n; i++) {
            x.set(0, i, i & mask);
        }
        return x;
    }

    private static void copyWithinOne(Sentences s) {
        s.promise(4, "as they were ahead: n.");
        for (int lane = 0; lane <= 2; lane++) {
            for (int[] ij : new int[][] {{0, 1}, {1, 0}, {0, 5}, {5, 0}, {3, 3}}) {
                int n = 60 - Math.max(ij[0], ij[1]);
                SandDots x = numbered(lane, 15, 60);
                s.due("within lane " + lane + " from " + ij[0] + " to " + ij[1], x.copy(0, ij[0], 0, ij[1], n), n);
                int[] due = numbers(60);
                System.arraycopy(numbers(60), ij[0], due, ij[1], n);
                s.isTrue("items of " + Arrays.toString(ij), Arrays.equals(Items.of(x, 0, lane, 60), due));
            }
        }
    }

    private static void copyRefused(Sentences s) {
        s.promise(4, "BAD: SHEETS;");
        SandDots x = new SandDots();
        x.sheet(0, 0, 4);
        for (int sheet : new int[] {-1, 8, LEAST, MOST}) {
            s.due("from " + sheet, x.copy(sheet, 0, 0, 0, 0), SandDots.BAD);
            s.due("to " + sheet, x.copy(0, 0, sheet, 0, 0), SandDots.BAD);
            s.due("from " + sheet + ", ahead of NULL and PLACE", x.copy(sheet, -1, 1, -1, -1), SandDots.BAD);
            s.due("to " + sheet + ", ahead of NULL and PLACE", x.copy(1, -1, sheet, -1, -1), SandDots.BAD);
        }
        s.promise(4, "NULL;");
        s.due("from a missing one", x.copy(7, 0, 0, 0, 0), Checks.NULL);
        s.due("to a missing one", x.copy(0, 0, 7, 0, 0), Checks.NULL);
        s.due("from a missing one to itself", x.copy(7, 0, 7, 0, 0), Checks.NULL);
        s.due("ahead of PLACE, from", x.copy(7, -1, 0, 5, -1), Checks.NULL);
        s.due("ahead of PLACE, to", x.copy(0, 5, 7, -1, -1), Checks.NULL);
        s.promise(4, "STORE;");
        for (int lane = 0; lane <= 2; lane++) {
            x.sheet(lane, lane, 4);
        }
        for (int a = 0; a <= 2; a++) {
            for (int b = 0; b <= 2; b++) {
                String lanes = "lane " + a + " to lane " + b;
                s.due(lanes, x.copy(a, 0, b, 0, 4), a == b ? 4 : Checks.STORE);
                s.due("no items, " + lanes, x.copy(a, 0, b, 0, 0), a == b ? 0 : Checks.STORE);
                s.due("ahead of PLACE, " + lanes, x.copy(a, -1, b, 9, 1), a == b ? Checks.PLACE : Checks.STORE);
            }
        }
    }

    private static void copyBeyond(Sentences s) {
        s.promise(4, "PLACE (i, j, n below 0, or beyond an end).");
        SandDots x = new SandDots();
        x.sheet(0, 0, 5);
        x.sheet(1, 0, 4);
        int[][] beyond = {{-1, 0, 1}, {0, -1, 1}, {0, 0, -1}, {-1, 0, 0}, {0, -1, 0}, {5, 4, -1}, {2, 0, 4}, {0, 1, 4},
            {0, 0, 5}, {5, 0, 1}, {0, 4, 1}, {6, 0, 0}, {0, 5, 0}, {MOST, 0, 0}, {0, MOST, 0}, {0, 0, MOST},
            {0, 0, LEAST}, {LEAST, 0, 0}, {0, LEAST, 0}, {1, 1, MOST}, {MOST, MOST, MOST}, {MOST, 0, 1}, {0, MOST, 1},
            {LEAST, LEAST, LEAST}, {MOST - 3, 0, 4}, {1, 1, LEAST}};
        for (int[] ijn : beyond) {
            s.due(Arrays.toString(ijn), x.copy(0, ijn[0], 1, ijn[1], ijn[2]), Checks.PLACE);
            s.due("within one: " + Arrays.toString(ijn), x.copy(1, ijn[0], 1, ijn[1], ijn[2]), Checks.PLACE);
        }
        for (int[] ijn : new int[][] {{1, 0, 4}, {0, 0, 4}, {4, 3, 1}, {5, 4, 0}, {5, 0, 0}, {0, 4, 0}}) {
            s.due("up to the ends: " + Arrays.toString(ijn), x.copy(0, ijn[0], 1, ijn[1], ijn[2]), ijn[2]);
        }
        x.sheet(2, 0, 0);
        s.due("one from an empty sheet", x.copy(2, 0, 0, 0, 1), Checks.PLACE);
        s.due("one to an empty sheet", x.copy(0, 0, 2, 0, 1), Checks.PLACE);
    }

    private static void drop(Sentences s) {
        s.promise(5, "A SHEET is missing from now on: how many ITEMS it had.");
        SandDots x = new SandDots();
        for (int sheet = 0; sheet <= 7; sheet++) {
            x.sheet(sheet, 2, sheet == 0 ? 0 : 60 - sheet + 1);
        }
        for (int sheet = 0; sheet <= 7; sheet++) {
            s.due("drop " + sheet, x.drop(sheet), sheet == 0 ? 0 : 60 - sheet + 1);
            s.due("sheet " + sheet + " is missing", x.set(sheet, 0, 1), Checks.NULL);
            s.due("the others stay", x.count(0), 7 - sheet);
        }
        x.sheet(0, 0, 16);
        x.set(0, 0, 1);
        x.drop(0);
        s.due("a sheet made anew", x.sheet(0, 0, 16), 16);
        s.due("has items that are 0", x.cast(0, 0), 0);
        s.promise(5, "BAD;");
        for (int sheet : new int[] {-1, 8, LEAST, MOST}) {
            s.due("drop " + sheet, x.drop(sheet), SandDots.BAD);
        }
        s.promise(5, "NULL.");
        s.due("a sheet that never was", x.drop(7), Checks.NULL);
        s.due("a sheet that is there", x.drop(0), 16);
        s.due("a sheet that was dropped", x.drop(0), Checks.NULL);
    }
}
