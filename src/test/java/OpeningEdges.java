/** 'What it is': each thing that the document's first sentence tells of, once, and the number of calls. */
final class OpeningEdges {
    private static final String OPENING = "What it is";
    private static final int CALLS = 512;

    static void all(Sentences s) {
        figures(s);
        places(s);
        drawings(s);
        mothersOfPlaces(s);
        point(s);
        rules(s);
        book(s);
        calls(s);
    }

    private static void figures(Sentences s) {
        s.name(OPENING, "Dots in sand: sixteen figures got by counting strokes, odd or even;");
        SandDots x = new SandDots();
        for (int figure = 0; figure <= 15; figure++) {
            x.sheet(0, 0, 16);
            for (int row = 0; row < 4; row++) {
                x.set(0, row, figure >> row & 1 | 8 + 2 * row);
            }
            s.due("the code of figure " + figure, x.cast(0, 0), figure);
            s.due("figure " + figure + " as the first mother", x.at(0), figure);
        }
        s.due("no seventeenth", x.kind(16), SandDots.BAD);
    }

    private static void places(Sentences s) {
        s.name(OPENING, "mothers and daughters, nieces, two witnesses and one judge;");
        SandDots x = new SandDots();
        x.chart(22581);
        // By hand: mothers 5 3 8 5 as rows, the daughters as its columns, the others added.
        int[] due = {5, 3, 8, 5, 11, 2, 9, 4, 5 ^ 3, 8 ^ 5, 11 ^ 2, 9 ^ 4, 6 ^ 13, 9 ^ 13, 11 ^ 4, 15 ^ 5};
        for (int place = 0; place <= 15; place++) {
            s.due("place " + place, x.at(place), due[place]);
        }
    }

    private static void drawings(Sentences s) {
        s.name(OPENING, "charts that can and cannot be,");
        SandDots x = new SandDots();
        x.sheet(0, 0, 16);
        s.due("it can be", x.drawing(0, 0, 0), 1);
        s.due("no place that cannot", x.drawing(0, 0, 4), SandDots.NONE);
        x.set(0, 14, 1);
        s.due("it cannot: no judge is odd", x.drawing(0, 0, 0), 0);
        s.due("the judge cannot", x.drawing(0, 0, 4), 14);
        s.name(OPENING, "the fewest strokes that mend one,");
        s.due("one", x.drawing(0, 0, 2), 1);
        s.due("the chart that it is then", x.drawing(0, 0, 3), 0);
        x.set(0, 14, 0);
        s.due("none", x.drawing(0, 0, 2), 0);
    }

    private static void mothersOfPlaces(Sentences s) {
        s.name(OPENING, "from how many mothers some places can come;");
        SandDots x = new SandDots();
        Checks.fill(x, 0, 0, -1, -1, -1, -1, -1, -1, -1, -1, -1, -1, -1, -1, -1, -1, -1, -1);
        s.due("no place", x.drawing(0, 0, 0), 65536);
        x.set(0, 14, 6);
        s.due("a judge, one of eight", x.drawing(0, 0, 0), 8192);
        x.set(0, 15, 6);
        s.due("and the end, so that mother 0 is known", x.drawing(0, 0, 0), 512);
    }

    private static void point(Sentences s) {
        s.name(OPENING, "the way of the point from the judge up;");
        SandDots x = new SandDots();
        x.chart(4660);
        // By hand, row 0: judge 9 has it, of 4 and 13 the second, of 12 and 1 the second, of 1 and 0 the first.
        s.due("its end", x.point(), 1 << 6);
    }

    private static void rules(Sentences s) {
        s.name(OPENING, "rules of reading told in a text, and which line said it;");
        SandDots x = new SandDots();
        s.due("three lines", Checks.read(x, "if fig 1 at 0 say 10;\nif fig 2 at 0 say 20;\nif even 0 say 30;\n"), 3);
        x.chart(2);
        s.due("what is said", x.said(0), 20);
        s.due("by which", x.said(1), 1);
        x.chart(4);
        s.due("nothing is said", x.said(0), SandDots.NONE);
    }

    private static void book(Sentences s) {
        s.name(OPENING, "a book of casts and what came,");
        SandDots x = new SandDots();
        Checks.read(x, "if fig 1 at 0 say 1;if fig 2 at 0 say 2;if pass 11 say 3;");
        int[] charts = {1, 2, 1, 2};
        int[] came = {1, 0, 1, 1};
        for (int k = 0; k < charts.length; k++) {
            x.chart(charts[k]);
            s.due("case " + k, x.record(came[k]), k + 1);
        }
        s.name(OPENING, "each rule held against it beside plain chance.");
        s.due("better: both of two, of three in four", x.worth(0, 3), 2 * 4 - 2 * 3);
        s.due("worse: one of two", x.worth(1, 3), 4 - 2 * 3);
        s.due("neither: it holds in none", x.worth(2, 3), 0);
        s.due("the best", x.best(), 0);
    }

    private static void calls(Sentences s) {
        s.name(OPENING, "An object is used for at most 512 calls after it has been made; what later calls answer is free.");
        SandDots x = new SandDots();
        for (int call = 1; call <= CALLS; call++) {
            s.due("call " + call, x.chart(65536 - call), call == 1 ? 0 : 65536 - call + 1);
        }
        SandDots y = new SandDots();
        for (int call = 1; call < CALLS; call++) {
            y.ask(call % 16, call % 2);
        }
        s.due("the last call, behind 511 asks", y.ask(0, 0), 108);
    }
}
