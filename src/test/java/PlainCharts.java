/** Charts made row by row, as the document's words have it, to hold the class against. */
final class PlainCharts {
    private static final int[][] ADDED_OF = {{0, 1}, {2, 3}, {4, 5}, {6, 7}, {8, 9}, {10, 11}, {12, 13}};
    private static final int[][] ALL = new int[65536][];

    static {
        for (int code = 0; code < ALL.length; code++) {
            ALL[code] = ofCode(code);
        }
    }

    private static boolean isSingle(int figure, int row) {
        return figure / (1 << row) % 2 == 1;
    }

    static int added(int a, int b) {
        int sum = 0;
        for (int row = 0; row < 4; row++) {
            if (isSingle(a, row) != isSingle(b, row)) {
                sum += 1 << row;
            }
        }
        return sum;
    }

    static int[] ofCode(int code) {
        int[] chart = new int[16];
        for (int mother = 0, rest = code; mother < 4; mother++, rest /= 16) {
            chart[mother] = rest % 16;
        }
        for (int daughter = 0; daughter < 4; daughter++) {
            for (int row = 0; row < 4; row++) {
                chart[4 + daughter] += isSingle(chart[row], daughter) ? 1 << row : 0;
            }
        }
        for (int k = 0; k < ADDED_OF.length; k++) {
            chart[8 + k] = added(chart[ADDED_OF[k][0]], chart[ADDED_OF[k][1]]);
        }
        chart[15] = added(chart[14], chart[0]);
        return chart;
    }

    static int pointEnds(int[] chart) {
        return endsFrom(chart, 14);
    }

    private static int endsFrom(int[] chart, int place) {
        int ends = 0;
        if (place >= 8) {
            for (int up : ADDED_OF[place - 8]) {
                if (isSingle(chart[up], 0) == isSingle(chart[place], 0)) {
                    ends |= endsFrom(chart, up);
                }
            }
        }
        return ends == 0 ? 1 << place : ends;
    }

    /** How many rows of places that are not torn are otherwise in the chart. */
    static int rowsOtherwise(int[] drawing, int[] chart) {
        int rows = 0;
        for (int place = 0; place < 16; place++) {
            rows += drawing[place] < 0 ? 0 : Integer.bitCount(drawing[place] ^ chart[place]);
        }
        return rows;
    }

    static boolean agreesUpTo(int last, int[] drawing, int[] chart) {
        for (int place = 0; place <= last; place++) {
            if (drawing[place] >= 0 && drawing[place] != chart[place]) {
                return false;
            }
        }
        return true;
    }

    /** The five answers of a drawing, by going through all charts for each. */
    static int[] answersOf(int[] drawing) {
        int[] answers = {0, SandDots.NONE, 65, SandDots.NONE, SandDots.NONE};
        boolean[] canBe = new boolean[16];
        for (int code = 0; code < 65536; code++) {
            int[] chart = ALL[code];
            int rows = rowsOtherwise(drawing, chart);
            if (rows == 0) {
                answers[0]++;
                answers[1] = answers[1] == SandDots.NONE ? code : answers[1];
            }
            if (rows < answers[2]) {
                answers[2] = rows;
                answers[3] = code;
            }
            for (int last = 0; last < 16 && agreesUpTo(last, drawing, chart); last++) {
                canBe[last] = true;
            }
        }
        for (int place = 15; place >= 0; place--) {
            answers[4] = canBe[place] ? answers[4] : place;
        }
        return answers;
    }
}
