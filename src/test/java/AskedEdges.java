/** Kinds and asks (sections 2 and 4 of the Terms) and promises 21 to 26. */
final class AskedEdges {
    private static final int LEAST = Integer.MIN_VALUE, MOST = Integer.MAX_VALUE;
    private static final int[] FAST = {0, 6, 9, 15}, EVEN = {3, 5, 10, 12}, ODD = {1, 2, 4, 7, 8, 11, 13, 14};
    private static final int[] NO_FIGURES = {-1, 16, LEAST, MOST};

    static void all(Sentences s) {
        kindsOfTerms(s);
        toldKind(s);
        trace16(s);
        sizeBodies(s);
        markBodies(s);
        nearestBody(s);
        kind(s);
        as(s);
        ask(s);
        trace(s);
        count(s);
        status(s);
        statusOfOtherCalls(s);
    }

    private static int dots(int figure) {
        return 8 - Integer.bitCount(figure);
    }

    private static void isOf(Sentences s, int kind, boolean so, int... figures) {
        for (int figure : figures) {
            s.due(figure + " as " + kind, new SandDots().as(figure, kind), so ? dots(figure) : Checks.KIND);
        }
    }

    private static void kindsOfTerms(Sentences s) {
        s.term("KINDS of FIGURES: 0 FIGURE;");
        isOf(s, 0, true, FAST);
        isOf(s, 0, true, EVEN);
        isOf(s, 0, true, ODD);
        s.due("kind -1", new SandDots().as(0, -1), SandDots.BAD);
        s.term("1 EVEN, a FIGURE: single ROWS are of an even number;");
        isOf(s, 1, true, FAST);
        isOf(s, 1, true, EVEN);
        isOf(s, 1, false, ODD);
        s.term("2 FAST, an EVEN one: ROWS 0 and 3 are alike, 1 and 2, too;");
        isOf(s, 2, true, FAST);
        isOf(s, 2, false, EVEN);
        isOf(s, 2, false, ODD);
        s.term("3 ODD, a FIGURE: not EVEN.");
        isOf(s, 3, false, FAST);
        isOf(s, 3, false, EVEN);
        isOf(s, 3, true, ODD);
        s.due("kind 4", new SandDots().as(0, 4), SandDots.BAD);
    }

    private static void toldKind(Sentences s) {
        s.term("It is told as the first that fits of FAST, EVEN, ODD: by this it is asked.");
        tellsAs(s, 2, FAST);
        tellsAs(s, 1, EVEN);
        tellsAs(s, 3, ODD);
    }

    private static void tellsAs(Sentences s, int kind, int[] figures) {
        int[] firstBodies = {0, 11, 12, 13};
        for (int figure : figures) {
            SandDots x = new SandDots();
            s.due("kind of " + figure, x.kind(figure), kind);
            x.ask(figure, 0);
            s.due("the body that begins for " + figure, x.trace(0), firstBodies[kind]);
        }
    }

    private static void asked(Sentences s, int figure, int what, int answer, int... bodies) {
        SandDots x = new SandDots();
        String call = "ask(" + figure + ", " + what + ")";
        s.due(call, x.ask(figure, what), answer);
        for (int i = 0; i <= 16; i++) {
            s.due("number " + i + " behind " + call, x.trace(i), i < bodies.length ? bodies[i] : SandDots.NONE);
        }
    }

    private static void trace16(Sentences s) {
        s.term("ASKS of FIGURES, by BODIES, each of which leaves its number in THE TRACE as it begins (the first 16):");
        // The longest trace there can be has five numbers.
        asked(s, 15, 0, 4 + 15 + 15 + 100, 12, 11, 10, 21, 20);
        SandDots x = new SandDots();
        for (int k = 0; k < 40; k++) {
            x.ask(15, 0);
        }
        s.due("many asks: the first number is of the latest", x.trace(0), 12);
        s.due("many asks: the last number is of the latest", x.trace(4), 20);
        s.due("many asks: none behind it", x.trace(5), SandDots.NONE);
    }

    private static void sizeBodies(Sentences s) {
        s.term("0 SIZE: 10 lent to all FIGURES: dots (one for each single ROW, two for each double one).");
        int[] dots = {8, 7, 7, 6, 7, 6, 6, 5, 7, 6, 6, 5, 6, 5, 5, 4};
        for (int figure = 0; figure <= 15; figure++) {
            s.due("dots of " + figure, new SandDots().as(figure, 0), dots[figure]);
        }
        s.due("it begins within another", tracedOf(3, 0, 1), 10);
        s.term("11 of EVEN ones: what 10 gives, and the number.");
        for (int figure : EVEN) {
            asked(s, figure, 0, dots[figure] + figure, 11, 10);
        }
        s.term("12 of FAST ones: what 11 gives, and MARK.");
        for (int figure : FAST) {
            asked(s, figure, 0, dots[figure] + figure + figure + 100, 12, 11, 10, 21, 20);
        }
        s.term("13 of ODD ones: what 10 gives, twice.");
        for (int figure : ODD) {
            asked(s, figure, 0, 2 * dots[figure], 13, 10);
        }
    }

    private static int tracedOf(int figure, int what, int i) {
        SandDots x = new SandDots();
        x.ask(figure, what);
        return x.trace(i);
    }

    private static void markBodies(Sentences s) {
        s.term("1 MARK: 20 lent to all FIGURES: the number.");
        for (int figure : EVEN) {
            asked(s, figure, 1, figure, 20);
        }
        s.term("21 of FAST ones: what 20 gives, and 100.");
        for (int figure : FAST) {
            asked(s, figure, 1, figure + 100, 21, 20);
        }
        s.term("22 of ODD ones: what 20 gives, and SIZE.");
        for (int figure : ODD) {
            asked(s, figure, 1, figure + 2 * dots(figure), 22, 20, 13, 10);
        }
    }

    private static void nearestBody(Sentences s) {
        s.term("(Of an ask the BODY told for the KIND begins, else that of the nearest KIND that it is, too, "
            + "else the one that is lent;");
        s.due("told for its kind: SIZE of a FAST one", tracedOf(6, 0, 0), 12);
        s.due("told for its kind: MARK of an ODD one", tracedOf(7, 1, 0), 22);
        s.due("lent: MARK of an EVEN one", tracedOf(5, 1, 0), 20);
        s.due("it calls no other", tracedOf(5, 1, 1), SandDots.NONE);
        s.term("SIZE, MARK within others are asked of the same FIGURE anew.)");
        s.due("MARK within SIZE of a FAST one", tracedOf(9, 0, 3), 21);
        s.due("MARK of it goes on to what is lent", tracedOf(9, 0, 4), 20);
        s.due("SIZE within MARK of an ODD one", tracedOf(8, 1, 2), 13);
        s.due("SIZE of it goes on to what is lent", tracedOf(8, 1, 3), 10);
    }

    private static void kind(Sentences s) {
        s.promise(21, "The KIND of a FIGURE, as it is told (1 to 3).");
        SandDots x = new SandDots();
        int[] kinds = {2, 3, 3, 1, 3, 1, 2, 3, 3, 2, 1, 3, 1, 3, 3, 2};
        for (int figure = 0; figure <= 15; figure++) {
            s.due("kind(" + figure + ")", x.kind(figure), kinds[figure]);
        }
        s.promise(21, "BAD.");
        for (int figure : NO_FIGURES) {
            s.due("kind(" + figure + ")", x.kind(figure), SandDots.BAD);
        }
    }

    private static void as(Sentences s) {
        s.promise(22, "A FIGURE is taken as one of a KIND (0 .. 3): its dots.");
        SandDots x = new SandDots();
        s.due("the first figure as the first kind", x.as(0, 0), 8);
        s.due("the last figure as the first kind", x.as(15, 0), 4);
        s.due("an odd figure as the last kind", x.as(14, 3), 5);
        s.promise(22, "BAD;");
        for (int figure : NO_FIGURES) {
            for (int kind = 0; kind <= 3; kind++) {
                s.due("figure " + figure + " as " + kind, x.as(figure, kind), SandDots.BAD);
            }
        }
        for (int kind : new int[] {-1, 4, LEAST, MOST}) {
            s.due("the first figure as " + kind, x.as(0, kind), SandDots.BAD);
            s.due("the last figure as " + kind, x.as(15, kind), SandDots.BAD);
        }
        s.promise(22, "KIND: it is not told as that (FAST ones are EVEN, too).");
        isOf(s, 1, true, FAST);
        isOf(s, 2, false, EVEN);
        isOf(s, 3, false, FAST);
        isOf(s, 3, false, EVEN);
        isOf(s, 1, false, ODD);
        isOf(s, 2, false, ODD);
    }

    private static void ask(Sentences s) {
        s.promise(23, "An ASK (0, 1) of a FIGURE.");
        SandDots x = new SandDots();
        s.due("SIZE of the first", x.ask(0, 0), 108);
        s.due("MARK of the first", x.ask(0, 1), 100);
        s.due("SIZE of the last", x.ask(15, 0), 134);
        s.due("MARK of the last", x.ask(15, 1), 115);
        s.promise(23, "BAD.");
        for (int figure : NO_FIGURES) {
            for (int what = 0; what <= 1; what++) {
                s.due(what + " of figure " + figure, x.ask(figure, what), SandDots.BAD);
                s.due("THE TRACE stays", x.trace(0), 21);
            }
        }
        for (int what : new int[] {-1, 2, LEAST, MOST}) {
            s.due(what + " of the first figure", x.ask(0, what), SandDots.BAD);
            s.due(what + " of the last figure", x.ask(15, what), SandDots.BAD);
            s.due("THE TRACE stays", x.trace(1), 20);
        }
        s.promise(23, "THE TRACE is empty ahead of it.");
        x.ask(0, 0);
        x.ask(3, 1);
        s.due("a short trace behind a long one", x.trace(0), 20);
        s.due("nothing is left of the long one", x.trace(1), SandDots.NONE);
        x.ask(1, 1);
        s.due("a long trace behind a short one", x.trace(0), 22);
        s.due("it is whole", x.trace(3), 10);
    }

    private static void trace(Sentences s) {
        s.promise(24, "Number i of THE TRACE;");
        SandDots x = new SandDots();
        x.ask(6, 0);
        int[] bodies = {12, 11, 10, 21, 20};
        for (int i = 0; i < 5; i++) {
            s.due("trace(" + i + ")", x.trace(i), bodies[i]);
        }
        s.promise(24, "NONE.");
        for (int i : new int[] {-1, 5, 15, 16, 17, LEAST, MOST}) {
            s.due("trace(" + i + ")", x.trace(i), SandDots.NONE);
            s.due("trace(" + i + ") of a new object", new SandDots().trace(i), SandDots.NONE);
        }
        s.due("trace(0) of a new object", new SandDots().trace(0), SandDots.NONE);
    }

    private static void count(Sentences s) {
        s.promise(25, "How many: 0 SHEETS, 1 RULES, 2 CASES, 3 of these with an end known, 4 yes, 5 bytes on the tape, "
            + "6 the CODE of THE CHART.");
        SandDots x = new SandDots();
        for (int what = 0; what <= 6; what++) {
            s.due("of a new object: " + what, x.count(what), 0);
        }
        int[] full = {8, 15, 100, 90, 60, 400, 65535};
        Checks.read(x, "if even 0 say 1;".repeat(15));
        for (int sheet = 0; sheet <= 7; sheet++) {
            x.sheet(sheet, 0, sheet % 2 * 60);
        }
        for (int k = 0; k < 100; k++) {
            x.record(k < 60 ? 1 : k < 90 ? 0 : 2);
        }
        Checks.feedText(x, "?".repeat(400));
        x.chart(65535);
        for (int what = 0; what <= 6; what++) {
            s.due("of a full object: " + what, x.count(what), full[what]);
        }
        s.promise(25, "BAD.");
        for (int what : new int[] {-1, 7, LEAST, MOST}) {
            s.due("count(" + what + ")", x.count(what), SandDots.BAD);
        }
    }

    private static void status(Sentences s) {
        s.promise(26, "Of the latest call with a SHEET, or as(), that was not BAD, STATE, FULL: the number of its FINDING;");
        SandDots x = new SandDots();
        found(s, x, "drop", x.drop(0), 1);
        found(s, x, "set of a missing one", x.set(0, 0, 0), 1);
        found(s, x, "sheet", x.sheet(0, 0, -1), 4);
        found(s, x, "copy of a missing one", x.copy(0, 0, 0, 0, 0), 1);
        found(s, x, "as", x.as(1, 2), 3);
        found(s, x, "cast of a missing one", x.cast(0, 0), 1);
        x.sheet(0, 0, 16);
        x.sheet(1, 1, 16);
        found(s, x, "set", x.set(0, 16, 0), 2);
        found(s, x, "copy of two lanes", x.copy(0, 0, 1, 0, 0), 5);
        found(s, x, "copy", x.copy(0, 0, 0, 0, 17), 2);
        found(s, x, "as", x.as(0, 3), 3);
        found(s, x, "cast", x.cast(0, 1), 2);
        found(s, x, "drawing of a missing one", x.drawing(2, 0, 0), 1);
        found(s, x, "drawing", x.drawing(0, -1, 0), 2);
    }

    private static void found(Sentences s, SandDots x, String call, int answer, int number) {
        s.due("the answer of " + call, answer, -1000010 - number);
        s.due("behind " + call, x.status(), number);
        s.due("asked again", x.status(), number);
    }

    private static void statusOfOtherCalls(Sentences s) {
        s.promise(26, "0: it had none, or there was none.");
        SandDots x = new SandDots();
        s.due("at first", x.status(), 0);
        x.chart(1);
        x.sheet(8, 0, 0);
        s.due("behind calls that do not count", x.status(), 0);
        String[] calls = {"sheet", "sheet without items", "set", "copy", "copy of none", "cast", "drawing", "as", "drop"};
        for (int k = 0; k < calls.length; k++) {
            x.sheet(0, 0, -1);
            s.due("a finding ahead of " + calls[k], x.status(), 4);
            s.isTrue(calls[k] + " is done", goodCall(x, k) >= 0);
            s.due("behind " + calls[k], x.status(), 0);
        }
    }

    private static int goodCall(SandDots x, int k) {
        switch (k) {
            case 0: return x.sheet(0, 2, 60);
            case 1: return x.sheet(1, 2, 0);
            case 2: return x.set(0, 59, 0);
            case 3: return x.copy(0, 0, 0, 44, 16);
            case 4: return x.copy(0, 60, 1, 0, 0);
            case 5: return x.cast(0, 44);
            case 6: return x.drawing(0, 44, 4 - 1);
            case 7: return x.as(15, 2);
            default: return x.drop(0);
        }
    }
}
