import java.util.Arrays;

/** Drawings (section 2 of the Terms) and promise 12. */
final class DrawingEdges {
    private static final int LEAST = Integer.MIN_VALUE, MOST = Integer.MAX_VALUE;

    static void all(Sentences s) {
        itemsOfADrawing(s);
        fits(s);
        strokes(s);
        leastCode(s);
        firstPlace(s);
        fitsOne(s);
        eachAnswer(s);
        refused(s);
        refusedItems(s);
    }

    private static int[] torn() {
        int[] drawing = new int[16];
        Arrays.fill(drawing, -1);
        return drawing;
    }

    /** A drawing that is torn but for some places, told in turn with their figures. */
    private static int[] drawn(int... placesAndFigures) {
        int[] drawing = torn();
        for (int k = 0; k < placesAndFigures.length; k += 2) {
            drawing[placesAndFigures[k]] = placesAndFigures[k + 1];
        }
        return drawing;
    }

    private static int[] otherwise(int code, int place, int row) {
        int[] drawing = PlainCharts.ofCode(code);
        drawing[place] ^= 1 << row;
        return drawing;
    }

    private static int answer(int[] drawing, int what) {
        SandDots x = new SandDots();
        Checks.fill(x, 0, 0, drawing);
        return x.drawing(0, 0, what);
    }

    private static void itemsOfADrawing(Sentences s) {
        s.term("A DRAWING: 16 ITEMS, each a FIGURE, or -1: torn.");
        for (int place = 0; place < 16; place++) {
            s.due("-1 at " + place, answer(drawn(place, -1), 0), 65536);
            s.due("0 at " + place, answer(drawn(place, 0), 0), place == 14 ? 8192 : 4096);
            s.due("15 at " + place, answer(drawn(place, 15), 0), place == 14 ? 8192 : 4096);
            s.due("-2 at " + place, answer(drawn(place, -2), 0), SandDots.BAD);
            s.due("16 at " + place, answer(drawn(place, 16), 0), SandDots.BAD);
        }
    }

    private static void fits(Sentences s) {
        s.term("It FITS a CHART, if all PLACES that are not torn are as there.");
        for (int code : new int[] {0, 4660, 65535}) {
            s.due("all places of " + code, answer(PlainCharts.ofCode(code), 0), 1);
            s.due("its code", answer(PlainCharts.ofCode(code), 1), code);
            for (int place = 0; place < 16; place++) {
                for (int row = 0; row < 4; row++) {
                    String what = "row " + row + " of place " + place + " of " + code + " otherwise";
                    int[] drawing = otherwise(code, place, row);
                    s.due(what, answer(drawing, 0), 0);
                    drawing[place] = -1;
                    s.due(what + ", torn", answer(drawing, 0), 1);
                }
            }
        }
        s.due("none is not torn: all charts", answer(torn(), 0), 65536);
        s.due("none is not torn: the first chart", answer(torn(), 1), 0);
    }

    private static void strokes(Sentences s) {
        s.term("STROKES that mend it: the fewest ROWS that must be otherwise so that it FITS some CHART;");
        s.due("all torn", answer(torn(), 2), 0);
        s.due("a chart", answer(PlainCharts.ofCode(65535), 2), 0);
        for (int place = 0; place < 16; place++) {
            for (int row = 0; row < 4; row++) {
                s.due("one row of place " + place, answer(otherwise(4660, place, row), 2), 1);
            }
        }
        int[] drawing = PlainCharts.ofCode(4660);
        drawing[15] ^= 1;
        drawing[13] ^= 8;
        s.due("two rows", answer(drawing, 2), 2);
        Arrays.fill(drawing, 15);
        s.due("every row is single", answer(drawing, 2), PlainCharts.answersOf(drawing)[2]);
        // A long search found none that needs more than these.
        int[][] farthest = {{10, 1, 10, 13, 5, 10, 7, 2, 12, 13, 14, 2, 12, 1, 15, 10},
            {2, 12, 2, 9, 6, 10, 13, 5, 12, 4, 0, 7, 7, 9, 6, 9}, {1, 6, 13, 0, 10, 12, 8, 10, 15, 3, 12, 7, 3, 5, 12, 3}};
        for (int[] far : farthest) {
            s.due("25 rows", answer(far, 2), 25);
            s.due("the chart that is nearest to it", answer(far, 3), PlainCharts.answersOf(far)[3]);
        }
        s.due("torn rows are not mended", answer(drawn(14, 7), 2), 1);
        s.due("one row of a daughter, all behind it torn", answer(drawn(0, 15, 1, 15, 2, 15, 3, 15, 4, 7), 2), 1);
    }

    private static void leastCode(Sentences s) {
        s.term("that CHART: of several the least CODE.");
        s.due("of all charts", answer(torn(), 3), 0);
        s.due("of all with mother 3 so", answer(drawn(3, 15), 3), 0xf000);
        s.due("of all that FIT", answer(drawn(14, 3, 15, 5), 3), 86);
        s.due("of one", answer(PlainCharts.ofCode(65535), 3), 65535);
        // THE JUDGE is even: 1 is mended to 0, 3, 5 or 9, so MOTHER 0 to 9, 10, 12 or 0.
        int[] drawing = drawn(14, 1, 15, 9);
        s.due("strokes of an odd judge with an end", answer(drawing, 2), 1);
        s.due("the least of those that one stroke mends", answer(drawing, 3), PlainCharts.answersOf(drawing)[3]);
        // MOTHER 1 with one row otherwise is 1, or DAUGHTER 0 is: both charts are as near, 0 is less than 16.
        s.due("a mother or a daughter", answer(drawn(0, 0, 1, 1, 2, 0, 3, 0, 4, 0, 5, 0, 6, 0, 7, 0), 3), 0);
        s.due("a daughter or a mother", answer(drawn(0, 0, 1, 0, 2, 0, 3, 0, 4, 2, 5, 0, 6, 0, 7, 0), 3), 0);
        s.due("either of them, not 0", answer(drawn(0, 2, 1, 1, 2, 0, 3, 0, 4, 0, 5, 1, 6, 0, 7, 0), 3), 2);
    }

    private static void firstPlace(Sentences s) {
        s.term("The first PLACE that cannot be: the least PLACE k so that no CHART has all PLACES 0 to k as drawn "
            + "(torn ones being any);");
        for (int code : new int[] {0, 4660, 65535}) {
            for (int place = 0; place < 16; place++) {
                for (int row = 0; row < 4; row++) {
                    s.due("row " + row + " of place " + place + " of " + code, answer(otherwise(code, place, row), 4),
                        place < 4 ? 4 + row : place);
                }
            }
        }
        s.due("the end, behind torn ones", answer(drawn(0, 3, 14, 3, 15, 1), 4), 15);
        s.due("the judge, behind torn ones", answer(drawn(14, 1, 15, 1), 4), 14);
        s.due("of several the least", answer(drawn(0, 0, 1, 0, 2, 0, 3, 0, 5, 1, 4, 1, 14, 1), 4), 4);
        s.due("a place that some charts have, but none with those ahead", answer(drawn(0, 1, 1, 1, 8, 1), 4), 8);
    }

    private static void fitsOne(Sentences s) {
        s.term("NONE: it FITS one.");
        s.due("all torn", answer(torn(), 4), SandDots.NONE);
        s.due("the last place only", answer(drawn(15, 15), 4), SandDots.NONE);
        for (int code : new int[] {0, 4660, 65535}) {
            s.due("a chart", answer(PlainCharts.ofCode(code), 4), SandDots.NONE);
        }
    }

    private static void eachAnswer(Sentences s) {
        s.promise(12, "Of a DRAWING, 16 ITEMS of a SHEET from i on: 0 how many CHARTS it FITS, "
            + "1 the least CODE of these (NONE), 2 STROKES that mend it, 3 the CODE of that CHART, "
            + "4 the first PLACE that cannot be.");
        int[] chart = PlainCharts.ofCode(65535);
        SandDots x = new SandDots();
        for (int i : new int[] {0, 1, 43, 44}) {
            x.sheet(7, 1, 60);
            for (int place = 0; place < 16; place++) {
                x.set(7, i + place, chart[place]);
            }
            answers(s, x, i, 1, 65535, 0, 65535, SandDots.NONE);
            x.set(7, i + 15, 0);
            answers(s, x, i, 0, SandDots.NONE, 4, 65535, 15);
            x.set(7, i + 15, -1);
            answers(s, x, i, 1, 65535, 0, 65535, SandDots.NONE);
        }
        s.due("THE CHART stays", x.count(6), 0);
    }

    private static void answers(Sentences s, SandDots x, int i, int... due) {
        for (int what = 0; what <= 4; what++) {
            s.due("what " + what + " from " + i + " on", x.drawing(7, i, what), due[what]);
        }
    }

    private static void refused(Sentences s) {
        s.promise(12, "BAD: SHEET, what;");
        SandDots x = new SandDots();
        x.sheet(0, 0, 16);
        for (int sheet : new int[] {-1, 8, LEAST, MOST}) {
            s.due("sheet " + sheet, x.drawing(sheet, 0, 0), SandDots.BAD);
        }
        for (int what : new int[] {-1, 5, LEAST, MOST}) {
            s.due("what " + what, x.drawing(0, 0, what), SandDots.BAD);
            s.due("ahead of NULL, what " + what, x.drawing(7, 0, what), SandDots.BAD);
            s.due("ahead of PLACE, what " + what, x.drawing(0, 1, what), SandDots.BAD);
        }
        s.promise(12, "NULL;");
        s.due("a missing sheet", x.drawing(7, 0, 4), Checks.NULL);
        s.due("ahead of PLACE", x.drawing(7, -1, 0), Checks.NULL);
        s.promise(12, "PLACE;");
        for (int n : new int[] {0, 1, 15, 16, 17, 60}) {
            x.sheet(0, 2, n);
            for (int i : new int[] {-1, n - 15, n, LEAST, MOST, MOST - 14, MOST - 15, MOST - 16}) {
                s.due("from " + i + " of " + n, x.drawing(0, i, 0), i >= 0 && i + 16L <= n ? 1 : Checks.PLACE);
            }
            s.due("the last 16 of " + n, x.drawing(0, n - 16, 0), n >= 16 ? 1 : Checks.PLACE);
        }
    }

    private static void refusedItems(Sentences s) {
        s.promise(12, "then BAD: an ITEM is not -1 to 15.");
        SandDots x = new SandDots();
        x.sheet(0, 2, 18);
        x.set(0, 0, 16);
        x.set(0, 17, -2);
        s.due("the items around do not matter", x.drawing(0, 1, 0), 1);
        s.due("the one ahead, taken in", x.drawing(0, 0, 0), SandDots.BAD);
        s.due("the one behind, taken in", x.drawing(0, 2, 0), SandDots.BAD);
        s.due("PLACE goes ahead of it", x.drawing(0, 3, 0), Checks.PLACE);
        for (int place = 0; place < 16; place++) {
            for (int item : new int[] {-2, 16, LEAST, MOST}) {
                x.set(0, 1 + place, item);
                s.due(item + " at " + place, x.drawing(0, 1, place % 5), SandDots.BAD);
            }
            x.set(0, 1 + place, -1);
            s.due("-1 at " + place + " and all ahead of it", x.drawing(0, 1, 2), 0);
        }
        s.due("the item is looked at, not its lowest bits", answer(drawn(0, 17), 1), SandDots.BAD);
    }
}
