/** THE BOOK (section 3 of the Terms) and promises 18 to 20. */
final class BookEdges {
    private static final int LEAST = Integer.MIN_VALUE, MOST = Integer.MAX_VALUE;

    static void all(Sentences s) {
        bookOfTerms(s);
        worthOfTerms(s);
        betterThanChance(s);
        record(s);
        recordRefused(s);
        worth(s);
        worthRefused(s);
        best(s);
        bestOfFifteen(s);
    }

    /** Cases of one chart and one end. */
    private static void cases(SandDots x, int times, int code, int came) {
        x.chart(code);
        for (int k = 0; k < times; k++) {
            x.record(came);
        }
    }

    private static SandDots reading(String text) {
        SandDots x = new SandDots();
        Checks.read(x, text);
        return x;
    }

    private static void bookOfTerms(Sentences s) {
        s.term("THE BOOK: up to 100 CASES: a CHART's CODE, and what came: 0 no, 1 yes, 2 not known.");
        SandDots x = reading("if fig 1 at 0 say 1;");
        cases(x, 99, 1, 2);
        s.due("99 cases", x.count(2), 99);
        s.due("none has an end known", x.count(3), 0);
        s.due("the 100th, a yes", x.record(1), 100);
        s.due("one end known", x.count(3), 1);
        s.due("one yes", x.count(4), 1);
        s.due("no 101st", x.record(1), SandDots.FULL);
        x.chart(0);
        s.due("cases keep the chart that was", x.worth(0, 0), 100);
        s.due("yes", x.worth(0, 1), 1);
        s.due("no", x.worth(0, 2), 0);
        for (int came = 0; came <= 2; came++) {
            SandDots y = reading("if even 0 say 1;");
            y.record(came);
            s.due(came + " is a case", y.count(2), 1);
            s.due(came + ", end known", y.count(3), came == 2 ? 0 : 1);
            s.due(came + ", yes", y.worth(0, 1), came == 1 ? 1 : 0);
            s.due(came + ", no", y.worth(0, 2), came == 0 ? 1 : 0);
        }
    }

    private static void worthOfTerms(Sentences s) {
        s.term("WORTH of a RULE: of the CASES of which the end is known and in which it holds "
            + "(just it, whichever come ahead), yes times the number of all CASES with an end known, "
            + "less how many of those it holds in times all yes:");
        String twice = "if fig 0 at 0 say 1;if fig 0 at 0 say 2;";
        worthIs(s, "an empty book", reading(twice), 0);
        SandDots x = reading(twice);
        cases(x, 50, 0, 1);
        cases(x, 50, 1, 0);
        worthIs(s, "a full book, yes just where it holds", x, 2500);
        x = reading(twice);
        cases(x, 50, 0, 0);
        cases(x, 50, 1, 1);
        worthIs(s, "a full book, no just where it holds", x, -2500);
        x = reading(twice);
        cases(x, 100, 0, 1);
        worthIs(s, "a full book, all yes", x, 0);
        x = reading(twice);
        cases(x, 100, 0, 0);
        worthIs(s, "a full book, all no", x, 0);
        x = reading(twice);
        cases(x, 100, 0, 2);
        worthIs(s, "a full book, none known", x, 0);
        x = reading(twice);
        cases(x, 100, 1, 1);
        worthIs(s, "a full book, in none of which it holds", x, 0);
        x = reading(twice);
        cases(x, 3, 0, 1);
        cases(x, 2, 0, 0);
        cases(x, 7, 0, 2);
        cases(x, 4, 1, 0);
        cases(x, 1, 1, 1);
        cases(x, 5, 1, 2);
        worthIs(s, "some of each", x, 3 * 10 - 5 * 4);
    }

    private static void worthIs(Sentences s, String name, SandDots x, int due) {
        s.due(name, x.worth(0, 3), due);
        s.due(name + ", behind another that holds, too", x.worth(1, 3), due);
    }

    private static void betterThanChance(Sentences s) {
        s.term("above 0: better than chance.");
        SandDots x = reading("if fig 0 at 0 say 1;");
        cases(x, 1, 0, 1);
        s.due("one yes is chance", x.worth(0, 3), 0);
        cases(x, 1, 1, 0);
        s.isTrue("a yes where it holds, a no where not", x.worth(0, 3) > 0);
        cases(x, 1, 0, 0);
        cases(x, 1, 1, 1);
        s.due("as many of each", x.worth(0, 3), 0);
        cases(x, 1, 0, 0);
        s.isTrue("worse", x.worth(0, 3) < 0);
    }

    private static void record(Sentences s) {
        s.promise(18, "A CASE: THE CHART, and what came (0, 1, 2): how many there are.");
        SandDots x = reading("if fig 15 at 3 say 1;");
        s.due("the first, of chart 0", x.record(0), 1);
        x.chart(65535);
        s.due("the second, of the last chart", x.record(1), 2);
        s.due("the third, of the same", x.record(2), 3);
        s.due("the rule holds in two", x.worth(0, 0), 2);
        for (int k = 4; k <= 100; k++) {
            s.due("case " + k, x.record(k % 3), k);
        }
        s.due("THE CHART stays", x.count(6), 65535);
    }

    private static void recordRefused(Sentences s) {
        s.promise(18, "BAD;");
        SandDots x = new SandDots();
        for (int came : new int[] {-1, 3, LEAST, MOST}) {
            s.due("came " + came, x.record(came), SandDots.BAD);
            s.due("no case came", x.count(2), 0);
        }
        s.promise(18, "FULL: 100.");
        x = reading("if even 0 say 1;");
        cases(x, 100, 0, 1);
        s.due("they are 100", x.count(2), 100);
        for (int came = 0; came <= 2; came++) {
            s.due("came " + came, x.record(came), SandDots.FULL);
            s.due("there are 100, still", x.count(2), 100);
            s.due("with an end known", x.count(3), 100);
            s.due("yes", x.count(4), 100);
            s.due("in which the rule holds", x.worth(0, 0), 100);
        }
        s.due("BAD goes ahead of FULL, below", x.record(-1), SandDots.BAD);
        s.due("BAD goes ahead of FULL, above", x.record(3), SandDots.BAD);
    }

    private static void worth(Sentences s) {
        s.promise(19, "Of a RULE, by THE BOOK: 0 CASES in which it holds, 1 of these yes, 2 of these no, 3 WORTH.");
        SandDots x = reading("if fig 0 at 0 say 1;".repeat(14) + "if fig 1 at 0 say 1;");
        for (int rule = 0; rule <= 14; rule += 14) {
            for (int what = 0; what <= 3; what++) {
                s.due("an empty book, " + what + " of rule " + rule, x.worth(rule, what), 0);
            }
        }
        cases(x, 3, 0, 1);
        cases(x, 2, 0, 0);
        cases(x, 7, 0, 2);
        cases(x, 4, 1, 0);
        cases(x, 1, 1, 1);
        cases(x, 5, 1, 2);
        int[] first = {12, 3, 2, 10};
        int[] last = {10, 1, 4, -10};
        for (int what = 0; what <= 3; what++) {
            s.due(what + " of the first of 15", x.worth(0, what), first[what]);
            s.due(what + " of the 14th", x.worth(13, what), first[what]);
            s.due(what + " of the last of 15", x.worth(14, what), last[what]);
        }
        Checks.read(x, "if fig 1 at 0 say 1;");
        s.due("the book is held against new rules, too", x.worth(0, 0), 10);
        s.due("THE CHART stays", x.count(6), 1);
    }

    private static void worthRefused(Sentences s) {
        s.promise(19, "BAD.");
        SandDots x = new SandDots();
        s.due("rule 0 of none", x.worth(0, 0), SandDots.BAD);
        Checks.read(x, "if even 0 say 1;".repeat(15));
        x.record(1);
        for (int rule : new int[] {-1, 15, LEAST, MOST}) {
            for (int what = -1; what <= 4; what++) {
                s.due(what + " of rule " + rule, x.worth(rule, what), SandDots.BAD);
            }
        }
        for (int what : new int[] {-1, 4, LEAST, MOST}) {
            s.due(what + " of the first rule", x.worth(0, what), SandDots.BAD);
            s.due(what + " of the last rule", x.worth(14, what), SandDots.BAD);
        }
    }

    private static void best(Sentences s) {
        s.promise(20, "The RULE of the greatest WORTH, of several the first;");
        SandDots x = reading("if fig 1 at 0 say 1;if fig 0 at 0 say 2;if fig 0 at 0 say 3;");
        s.due("an empty book: all are like", x.best(), 0);
        x.record(1);
        s.due("one case: all are like", x.best(), 0);
        cases(x, 1, 1, 0);
        s.due("the first of two that are better", x.best(), 1);
        cases(x, 3, 1, 1);
        cases(x, 3, 0, 0);
        s.due("the others are worse", x.best(), 0);
        x = reading("if fig 0 at 0 say 1;if even 0 say 2;if same 0 1 say 3;");
        cases(x, 2, 0, 0);
        cases(x, 2, 1, 1);
        cases(x, 1, 3, 1);
        s.due("all are below 0: the nearest to it", x.best(), 1);
        s.due("its worth", x.worth(1, 3), 1 * 5 - 3 * 3);
        s.promise(20, "NONE: no RULES.");
        s.due("at first", new SandDots().best(), SandDots.NONE);
        x.rules();
        s.due("no rules any more", x.best(), SandDots.NONE);
        cases(x, 1, 0, 1);
        s.due("with cases, too", x.best(), SandDots.NONE);
    }

    private static void bestOfFifteen(Sentences s) {
        s.promise(20, "The RULE of the greatest WORTH,");
        for (int best = 0; best < 15; best++) {
            SandDots x = reading("if fig 1 at 0 say 1;".repeat(best) + "if fig 0 at 0 say 1;".repeat(15 - best));
            cases(x, 1, 0, 1);
            cases(x, 1, 1, 0);
            s.due("rule " + best + " of 15", x.best(), best);
        }
    }
}
