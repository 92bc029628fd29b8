/** Promises 21 to 25. */
public final class AskedTest {
    private static final Checks checks = new Checks();

    public static void main(String[] args) {
        kind();
        as();
        ask();
        traceOfRefusals();
        count();
        checks.end();
    }

    private static void kind() {
        SandDots x = new SandDots();
        int[] kinds = {2, 3, 3, 1, 3, 1, 2, 3, 3, 2, 1, 3, 1, 3, 3, 2};
        for (int figure = 0; figure < 16; figure++) {
            checks.due("21: kind(" + figure + ")", x.kind(figure), kinds[figure]);
        }
        checks.due("21: below 0", x.kind(-1), SandDots.BAD);
        checks.due("21: above 15", x.kind(16), SandDots.BAD);
    }

    private static void as() {
        SandDots x = new SandDots();
        int[] figures = {0, 1, 3, 6, 7, 15};
        int[] dots = {8, 7, 6, 6, 5, 4};
        boolean[][] isOf = {{true, true, true, false}, {true, false, false, true}, {true, true, false, false},
            {true, true, true, false}, {true, false, false, true}, {true, true, true, false}};
        for (int k = 0; k < figures.length; k++) {
            for (int kind = 0; kind <= 3; kind++) {
                checks.due("22: as(" + figures[k] + ", " + kind + ")", x.as(figures[k], kind),
                    isOf[k][kind] ? dots[k] : Checks.KIND);
                checks.due("26: status() behind it", x.status(), isOf[k][kind] ? 0 : 3);
            }
        }
        checks.due("22: figure -1", x.as(-1, 0), SandDots.BAD);
        checks.due("22: figure 16", x.as(16, 0), SandDots.BAD);
        checks.due("22: kind -1", x.as(0, -1), SandDots.BAD);
        checks.due("22: kind 4", x.as(0, 4), SandDots.BAD);
    }

    private static void ask() {
        int[] kinds = {2, 3, 3, 1, 3, 1, 2, 3, 3, 2, 1, 3, 1, 3, 3, 2};
        for (int figure = 0; figure < 16; figure++) {
            int dots = 8 - Integer.bitCount(figure);
            if (kinds[figure] == 2) {
                asked(figure, 0, dots + figure + figure + 100, 12, 11, 10, 21, 20);
                asked(figure, 1, figure + 100, 21, 20);
            } else if (kinds[figure] == 1) {
                asked(figure, 0, dots + figure, 11, 10);
                asked(figure, 1, figure, 20);
            } else {
                asked(figure, 0, 2 * dots, 13, 10);
                asked(figure, 1, figure + 2 * dots, 22, 20, 13, 10);
            }
        }
    }

    private static void asked(int figure, int what, int answer, int... bodies) {
        SandDots x = new SandDots();
        x.ask(0, 0);
        String call = "ask(" + figure + ", " + what + ")";
        checks.due("23: " + call, x.ask(figure, what), answer);
        for (int i = 0; i < 18; i++) {
            checks.due("24: trace(" + i + ") of " + call, x.trace(i), i < bodies.length ? bodies[i] : SandDots.NONE);
        }
        checks.due("24: trace(-1) of " + call, x.trace(-1), SandDots.NONE);
        checks.due("24: the greatest place", x.trace(Integer.MAX_VALUE), SandDots.NONE);
    }

    private static void traceOfRefusals() {
        SandDots x = new SandDots();
        x.ask(1, 0);
        checks.due("23: figure -1", x.ask(-1, 0), SandDots.BAD);
        checks.due("23: figure 16", x.ask(16, 0), SandDots.BAD);
        checks.due("23: what -1", x.ask(0, -1), SandDots.BAD);
        checks.due("23: what 2", x.ask(0, 2), SandDots.BAD);
        checks.due("24: what is refused leaves the trace", x.trace(0), 13);
        checks.due("24: what is refused leaves the trace", x.trace(1), 10);
        x.as(0, 0);
        x.kind(0);
        checks.due("24: other calls leave no number", x.trace(2), SandDots.NONE);
    }

    private static void count() {
        SandDots x = new SandDots();
        x.sheet(1, 0, 0);
        x.sheet(2, 0, 3);
        Checks.read(x, "if even 0 say 1;if even 1 say 2;if even 2 say 3;");
        for (int came : new int[] {0, 1, 2, 2, 1, 1, 0}) {
            x.record(came);
        }
        x.feed(0, 6);
        x.chart(54321);
        int[] due = {2, 3, 7, 5, 3, 6, 54321};
        for (int what = 0; what < due.length; what++) {
            checks.due("25: count(" + what + ")", x.count(what), due[what]);
        }
        checks.due("25: what -1", x.count(-1), SandDots.BAD);
        checks.due("25: what 7", x.count(7), SandDots.BAD);
    }
}
