/** Promises 18 to 20. */
public final class BookTest {
    private static final Checks checks = new Checks();
    // Of charts 0, 1, 2, 3: rule 0 holds in 0, rule 1 in 0 and 3, rule 2 in all, rule 3 in none.
    private static final String RULES =
        "if fig 0 at 0 say 1;if even 0 say 2;if same 0 0 say 3;if fig 9 at 0 say 4;if fig 0 at 0 say 5;";

    public static void main(String[] args) {
        record();
        fullBook();
        worth();
        worthRefusals();
        worthOfManyCases();
        best();
        checks.end();
    }

    private static void cases(SandDots x, int... codesAndEnds) {
        for (int k = 0; k < codesAndEnds.length; k += 2) {
            x.chart(codesAndEnds[k]);
            x.record(codesAndEnds[k + 1]);
        }
    }

    private static void record() {
        SandDots x = new SandDots();
        checks.due("18: the first", x.record(0), 1);
        checks.due("18: the second", x.record(1), 2);
        checks.due("18: the third", x.record(2), 3);
        checks.due("18: came -1", x.record(-1), SandDots.BAD);
        checks.due("18: came 3", x.record(3), SandDots.BAD);
        checks.due("18: cases", x.count(2), 3);
        checks.due("18: of these with an end known", x.count(3), 2);
        checks.due("18: yes", x.count(4), 1);
    }

    private static void fullBook() {
        SandDots x = new SandDots();
        for (int k = 1; k <= 100; k++) {
            checks.due("18: case " + k, x.record(k % 3), k);
        }
        checks.due("18: no case 101", x.record(1), SandDots.FULL);
        checks.due("18: BAD goes ahead of FULL", x.record(3), SandDots.BAD);
        checks.due("18: cases", x.count(2), 100);
        checks.due("18: with an end known", x.count(3), 67);
        checks.due("18: yes", x.count(4), 34);
    }

    private static void worth() {
        SandDots x = new SandDots();
        cases(x, 0, 1, 0, 2, 3, 0, 3, 1, 1, 0, 2, 1, 0, 1, 1, 2);
        Checks.read(x, RULES);
        int[][] due = {{3, 2, 0, 2 * 6 - 2 * 4}, {5, 3, 1, 3 * 6 - 4 * 4}, {8, 4, 2, 0}, {0, 0, 0, 0}};
        for (int rule = 0; rule < due.length; rule++) {
            for (int what = 0; what <= 3; what++) {
                checks.due("19: worth(" + rule + ", " + what + ")", x.worth(rule, what), due[rule][what]);
            }
        }
        checks.due("19: THE CHART is as it was", x.count(6), 1);
        Checks.read(x, "if fig 1 at 0 say 1;");
        checks.due("19: worse than chance", x.worth(0, 3), -4);
        checks.due("19: one not known", x.worth(0, 0), 2);
    }

    private static void worthRefusals() {
        SandDots x = new SandDots();
        checks.due("19: no rules", x.worth(0, 0), SandDots.BAD);
        Checks.read(x, "if even 0 say 1;");
        checks.due("19: an empty book", x.worth(0, 0), 0);
        checks.due("19: an empty book, worth", x.worth(0, 3), 0);
        checks.due("19: no such rule, above", x.worth(1, 0), SandDots.BAD);
        checks.due("19: no such rule, below", x.worth(-1, 0), SandDots.BAD);
        checks.due("19: what -1", x.worth(0, -1), SandDots.BAD);
        checks.due("19: what 4", x.worth(0, 4), SandDots.BAD);
    }

    private static void worthOfManyCases() {
        SandDots x = new SandDots();
        for (int k = 0; k < 100; k++) {
            cases(x, k < 50 ? 0 : 1, k < 50 ? 1 : 0);
        }
        Checks.read(x, RULES);
        checks.due("19: the greatest worth there can be", x.worth(0, 3), 50 * 100 - 50 * 50);
        Checks.read(x, "if fig 1 at 0 say 1;");
        checks.due("19: the least there can be", x.worth(0, 3), -2500);
    }

    private static void best() {
        SandDots x = new SandDots();
        checks.due("20: no rules", x.best(), SandDots.NONE);
        Checks.read(x, RULES);
        checks.due("20: an empty book: the first", x.best(), 0);
        cases(x, 0, 1, 1, 0, 3, 1);
        checks.due("20: the greatest worth", x.best(), 1);
        cases(x, 3, 0, 3, 0, 0, 1);
        checks.due("20: of two like ones the first", x.best(), 0);
        x = new SandDots();
        cases(x, 0, 0, 1, 1);
        Checks.read(x, "if fig 0 at 0 say 1;if even 0 say 2;");
        checks.due("20: all worse than chance", x.best(), 0);
        cases(x, 3, 1, 3, 1);
        checks.due("20: the less bad of two", x.best(), 1);
        x.rules();
        checks.due("20: no rules any more", x.best(), SandDots.NONE);
    }
}
