/** Figures, charts, casts and THE POINT (sections 1 and 2 of the Terms) and promises 6 to 11. */
final class ChartEdges {
    private static final int LEAST = Integer.MIN_VALUE, MOST = Integer.MAX_VALUE;
    private static final int[] CODES = {0, 1, 15, 16, 4095, 4096, 4660, 22581, 32768, 40000, 61440, 65534, 65535};
    private static final int[] NO_NUMBERS = {-1, 16, LEAST, MOST};

    static void all(Sentences s) {
        figures(s);
        placesOfAChart(s);
        codeOfAChart(s);
        castOfTerms(s);
        theChart(s);
        wayOfThePoint(s);
        castOfSixteen(s);
        castRefused(s);
        castOfBadItems(s);
        chart(s);
        at(s);
        add(s);
        seen(s);
        point(s);
    }

    private static void figures(Sentences s) {
        s.term("FIGURES 0 to 15: four ROWS, 0 (the uppermost) to 3, each single or double;");
        SandDots x = new SandDots();
        s.due("the first figure, all double, has eight dots", x.as(0, 0), 8);
        s.due("the last figure, all single, has four", x.as(15, 0), 4);
        for (int figure : NO_NUMBERS) {
            s.due("seen(" + figure + ")", x.seen(figure), SandDots.BAD);
            s.due("kind(" + figure + ")", x.kind(figure), SandDots.BAD);
        }
        s.term("single ROW r is 2 to the power r in the FIGURE's number.");
        for (int row = 0; row < 4; row++) {
            x.sheet(0, 0, 16);
            x.set(0, row, 1);
            x.cast(0, 0);
            s.due("single row " + row + " alone", x.at(0), new int[] {1, 2, 4, 8}[row]);
        }
        s.term("Two ADDED: a ROW is single, if it is so in just one of both.");
        for (int a = 0; a <= 15; a++) {
            x = new SandDots();
            for (int b = 0; b <= 15; b++) {
                s.due(a + " and " + b, x.add(a, b), PlainCharts.added(a, b));
            }
        }
    }

    private static void placesOfAChart(Sentences s) {
        s.term("A CHART: 16 PLACES: 0 to 3 MOTHERS;");
        for (int mother = 0; mother < 4; mother++) {
            SandDots x = toldChart(15 << 4 * mother);
            for (int place = 0; place < 4; place++) {
                s.due("mother " + mother + " alone is all single, place " + place, x.at(place), place == mother ? 15 : 0);
            }
        }
        s.due("the last place", toldChart(1).at(15), 1);
        s.due("no place behind it", toldChart(1).at(16), SandDots.BAD);
        s.term("4 to 7 DAUGHTERS: ROW i of DAUGHTER j is ROW j of MOTHER i;");
        for (int i = 0; i < 4; i++) {
            for (int j = 0; j < 4; j++) {
                SandDots x = toldChart(1 << 4 * i + j);
                for (int daughter = 0; daughter < 4; daughter++) {
                    s.due("row " + j + " of mother " + i + ", daughter " + daughter, x.at(4 + daughter),
                        daughter == j ? 1 << i : 0);
                }
            }
        }
        s.term("8 to 11 NIECES: MOTHERS 0 and 1 ADDED, 2 and 3, DAUGHTERS 0 and 1, 2 and 3;");
        isAddedOf(s, 8, 0, 1);
        isAddedOf(s, 9, 2, 3);
        isAddedOf(s, 10, 4, 5);
        isAddedOf(s, 11, 6, 7);
        s.term("12, 13 WITNESSES: NIECES 8 and 9 ADDED, 10 and 11;");
        isAddedOf(s, 12, 8, 9);
        isAddedOf(s, 13, 10, 11);
        s.term("14 THE JUDGE: both WITNESSES ADDED;");
        isAddedOf(s, 14, 12, 13);
        s.term("15 THE END: THE JUDGE and MOTHER 0 ADDED.");
        isAddedOf(s, 15, 14, 0);
    }

    private static SandDots toldChart(int code) {
        SandDots x = new SandDots();
        x.chart(code);
        return x;
    }

    private static void isAddedOf(Sentences s, int place, int a, int b) {
        for (int code : CODES) {
            SandDots x = toldChart(code);
            s.due("place " + place + " of " + code, x.at(place), PlainCharts.added(x.at(a), x.at(b)));
        }
    }

    private static void codeOfAChart(Sentences s) {
        s.term("CODE of a CHART: MOTHER 0, and 16 times MOTHER 1, 256 times MOTHER 2, 4096 times MOTHER 3.");
        for (int code : CODES) {
            SandDots x = toldChart(code);
            s.due("" + code, x.at(0) + 16 * x.at(1) + 256 * x.at(2) + 4096 * x.at(3), code);
        }
    }

    private static void castOfTerms(Sentences s) {
        s.term("A CAST: 16 numbers of strokes (0 or more), four for each MOTHER, ROWS from the uppermost on: "
            + "an odd number is single.");
        int[] taken = {0, 1, 2, 3, 126, 127};
        int[] wide = {32766, 32767, 0, 1, 128, 255};
        int[] widest = {MOST, MOST - 1, 65535, 65536, 32768, 1};
        castsOf(s, 0, taken);
        castsOf(s, 1, wide);
        castsOf(s, 2, widest);
        for (int lane = 0; lane <= 2; lane++) {
            SandDots x = new SandDots();
            x.sheet(0, lane, 16);
            x.set(0, 15, -1);
            s.due("fewer than none in lane " + lane, x.cast(0, 0), SandDots.BAD);
        }
    }

    private static void castsOf(Sentences s, int lane, int[] strokes) {
        for (int number : strokes) {
            for (int item = 0; item < 16; item++) {
                SandDots x = new SandDots();
                x.sheet(0, lane, 16);
                x.set(0, item, number);
                String what = number + " as item " + item + " of lane " + lane;
                s.due(what, x.cast(0, 0), number % 2 == 1 ? 1 << item : 0);
                s.due(what + ", its mother", x.at(item / 4), number % 2 == 1 ? 1 << item % 4 : 0);
            }
        }
    }

    private static void theChart(Sentences s) {
        s.term("THE CHART is the latest one that was cast, or told by its CODE (CODE 0 at first).");
        SandDots x = new SandDots();
        s.due("at first", x.count(6), 0);
        x.chart(4660);
        s.due("told", x.count(6), 4660);
        x.sheet(0, 0, 16);
        x.set(0, 1, 1);
        s.due("a sheet is no cast", x.count(6), 4660);
        x.cast(0, 0);
        s.due("cast", x.count(6), 2);
        s.due("its places are of the cast", x.at(5), 1);
        x.set(0, 1, 0);
        s.due("the cast stays as it was cast", x.count(6), 2);
        s.due("told behind a cast", x.chart(65535), 2);
        s.due("it is THE CHART", x.count(6), 65535);
    }

    private static void wayOfThePoint(Sentences s) {
        s.term("THE POINT: from THE JUDGE to each WITNESS whose ROW 0 is as THE JUDGE's;");
        s.due("to both, and no further", endsOf(261), 3 << 12);
        s.due("to both, from the second on", endsOf(272), 1 << 12 | 15 << 4);
        s.due("to both, from the first on", endsOf(6), 1 << 13 | 15);
        s.due("to the first alone", endsOf(3), 1);
        s.due("to the second alone", endsOf(17), 1 << 4);
        s.due("to none", endsOf(1), 1 << 14);
        s.term("from a WITNESS to each of the two NIECES that it was ADDED of whose ROW 0 is as its own,");
        s.due("to all four, and no further", endsOf(65535), 15 << 8);
        s.due("from the first to none, from the second to both", endsOf(271), 7 << 10);
        s.due("from the second to none, from the first to both", endsOf(4373), 1 << 13 | 3 << 8);
        s.term("and likewise from a NIECE to MOTHERS or DAUGHTERS:");
        int[] endsAtPlace = {3, 16, 256, 4096, 17, 2, 4, 8};
        for (int place = 0; place < 8; place++) {
            s.due("to place " + place + " alone", endsOf(endsAtPlace[place]), 1 << place);
        }
        s.due("from nieces 8, 10, 11 to both", endsOf(4352), 1 << 9 | 0xf3);
        s.term("where it ends: PLACES from which it goes no further up (THE JUDGE, too, if it goes nowhere).");
        s.due("the judge", endsOf(33), 1 << 14);
        s.due("all mothers and daughters", endsOf(0), 255);
        for (int code : CODES) {
            s.due("of " + code, endsOf(code), PlainCharts.pointEnds(chartOf(code)));
        }
    }

    private static int[] chartOf(int code) {
        return PlainCharts.ofCode(code);
    }

    private static int endsOf(int code) {
        return toldChart(code).point();
    }

    private static void castOfSixteen(Sentences s) {
        s.promise(6, "A CAST, 16 ITEMS of a SHEET from i on: the CODE of THE CHART.");
        for (int sheet = 0; sheet <= 7; sheet += 7) {
            SandDots x = new SandDots();
            x.sheet(sheet, 1, 60);
            for (int i = 44; i < 60; i++) {
                x.set(sheet, i, 7);
            }
            s.due("the first 16 of 60", x.cast(sheet, 0), 0);
            s.due("16 of which 1 is odd", x.cast(sheet, 29), 32768);
            s.due("the last 16 of 60", x.cast(sheet, 44), 65535);
            s.due("it is THE CHART", x.count(6), 65535);
            s.due("it is just 16, too", x.sheet(sheet, 0, 16), 16);
            s.due("all of them", x.cast(sheet, 0), 0);
        }
    }

    private static void castRefused(Sentences s) {
        s.promise(6, "BAD: SHEET;");
        SandDots x = toldChart(77);
        for (int sheet : new int[] {-1, 8, LEAST, MOST}) {
            s.due("sheet " + sheet, x.cast(sheet, 0), SandDots.BAD);
        }
        s.promise(6, "NULL;");
        s.due("the first sheet, missing", x.cast(0, 0), Checks.NULL);
        s.due("the last sheet, missing, ahead of PLACE", x.cast(7, -1), Checks.NULL);
        s.promise(6, "PLACE;");
        for (int n : new int[] {0, 1, 15, 16, 17, 60}) {
            x.sheet(0, 2, n);
            for (int i : new int[] {-1, n - 15, LEAST, MOST, MOST - 14, MOST - 15, MOST - 16}) {
                s.due("from " + i + " of " + n, x.cast(0, i), i >= 0 && i + 16L <= n ? 0 : Checks.PLACE);
            }
            x.chart(77);
        }
        s.due("THE CHART stays", x.count(6), 77);
    }

    private static void castOfBadItems(Sentences s) {
        s.promise(6, "then BAD: an ITEM is below 0.");
        for (int item = 0; item < 16; item++) {
            SandDots x = toldChart(77);
            x.sheet(0, 0, 18);
            x.set(0, 0, -1);
            x.set(0, 17, -1);
            s.due("the items around do not matter", x.cast(0, 1), 0);
            x.chart(77);
            x.set(0, 1 + item, -1);
            s.due("item " + item + " is -1", x.cast(0, 1), SandDots.BAD);
            x.set(0, 1 + item, 128);
            s.due("item " + item + " is the least of bytes", x.cast(0, 1), SandDots.BAD);
            s.due("PLACE goes ahead of it", x.cast(0, 3), Checks.PLACE);
            s.due("THE CHART stays", x.count(6), 77);
            s.due("and so do its places", x.at(0), 13);
            x.set(0, 1 + item, 0);
            s.due("item " + item + " is 0", x.cast(0, 1), 0);
        }
        SandDots x = new SandDots();
        x.sheet(0, 2, 16);
        x.set(0, 0, LEAST);
        s.due("the least of ints", x.cast(0, 0), SandDots.BAD);
    }

    private static void chart(Sentences s) {
        s.promise(7, "THE CHART is that of a CODE (0 to 65535): the CODE of what was.");
        SandDots x = new SandDots();
        s.due("the last code", x.chart(65535), 0);
        s.due("it is THE CHART", x.at(3), 15);
        s.due("the same once more", x.chart(65535), 65535);
        s.due("the first code", x.chart(0), 65535);
        s.due("it is THE CHART", x.at(3), 0);
        s.promise(7, "BAD.");
        x.chart(65535);
        for (int code : new int[] {-1, 65536, 65537, LEAST, MOST}) {
            s.due("code " + code, x.chart(code), SandDots.BAD);
            s.due("THE CHART stays", x.count(6), 65535);
            s.due("and so do its places", x.seen(15), 9);
        }
    }

    private static void at(Sentences s) {
        s.promise(8, "The FIGURE at a PLACE of THE CHART.");
        for (int code : CODES) {
            SandDots x = toldChart(code);
            for (int place = 0; place <= 15; place++) {
                s.due("place " + place + " of " + code, x.at(place), chartOf(code)[place]);
            }
        }
        s.promise(8, "BAD.");
        for (int place : NO_NUMBERS) {
            s.due("place " + place, toldChart(65535).at(place), SandDots.BAD);
        }
    }

    private static void add(Sentences s) {
        s.promise(9, "Two FIGURES ADDED.");
        SandDots x = new SandDots();
        s.due("the first ones", x.add(0, 0), 0);
        s.due("the first and the last", x.add(0, 15), 15);
        s.due("the last and the first", x.add(15, 0), 15);
        s.due("the last ones", x.add(15, 15), 0);
        s.promise(9, "BAD.");
        for (int figure : NO_NUMBERS) {
            s.due(figure + " as a", x.add(figure, 0), SandDots.BAD);
            s.due(figure + " as b", x.add(0, figure), SandDots.BAD);
            s.due(figure + " twice", x.add(figure, figure), SandDots.BAD);
        }
    }

    private static void seen(Sentences s) {
        s.promise(10, "How many PLACES (0 to 15) of THE CHART have a FIGURE.");
        s.due("all of them", new SandDots().seen(0), 16);
        s.due("none of them", new SandDots().seen(15), 0);
        for (int code : CODES) {
            SandDots x = toldChart(code);
            int[] times = new int[16];
            for (int figure : chartOf(code)) {
                times[figure]++;
            }
            for (int figure = 0; figure <= 15; figure++) {
                s.due(figure + " in " + code, x.seen(figure), times[figure]);
            }
        }
        // 3 stands in 51 at places 0, 1, 4, 5 and 15: the first and the last place count.
        s.due("at the first and at the last place", toldChart(51).seen(3), 5);
        s.promise(10, "BAD.");
        for (int figure : NO_NUMBERS) {
            s.due("figure " + figure, new SandDots().seen(figure), SandDots.BAD);
        }
    }

    private static void point(Sentences s) {
        s.promise(11, "The set of PLACES (bits) at which THE POINT ends.");
        SandDots x = new SandDots();
        s.due("places 0 to 7", x.point(), 0xff);
        x.chart(65535);
        s.due("places 8 to 11", x.point(), 0xf00);
        x.chart(33);
        s.due("place 14", x.point(), 0x4000);
        s.due("THE CHART stays", x.count(6), 33);
    }
}
