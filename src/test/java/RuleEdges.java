import java.nio.charset.StandardCharsets;

/** Texts of rules (section 3 of the Terms) and promises 13 to 17. */
final class RuleEdges {
    private static final int LEAST = Integer.MIN_VALUE, MOST = Integer.MAX_VALUE;
    private static final String RULE = "if even 1 say 1;";
    private static final String FOUR = "if even 1 and even 2 and even 3 and even 4";

    static void all(Sentences s) {
        fullTape(s);
        tokens(s);
        names(s);
        signsAndBlanks(s);
        text(s);
        tests(s);
        pass(s);
        even(s);
        allTests(s);
        whatIsSaid(s);
        faultsInTime(s);
        cannotStand(s);
        outOfRange(s);
        tooMany(s);
        feed(s);
        feedRefused(s);
        rules(s);
        rulesWithAFault(s);
        fault(s);
        said(s);
        holds(s);
    }

    private static void reads(Sentences s, String text, int rules) {
        SandDots x = new SandDots();
        s.due("rules of " + text, Checks.read(x, text), rules);
        s.due("no fault in " + text, x.fault(), 0);
    }

    private static void faulty(Sentences s, String text, int number, int place) {
        SandDots x = new SandDots();
        s.due("the place in " + text, Checks.read(x, text), -1000100 - place);
        s.due("the fault in " + text, x.fault(), number);
        s.due("no rules of " + text, x.count(1), 0);
    }

    private static void fullTape(Sentences s) {
        s.term("RULES, texts: THE TAPE has at most 400 bytes;");
        SandDots x = blanks(399);
        s.due("the 400th byte", x.feed(' ', 1), 400);
        s.due("no 401st", x.feed(' ', 1), SandDots.FULL);
        s.due("nor eight more", x.feed(' ', 8), SandDots.FULL);
        s.due("it has 400", x.count(5), 400);
        reads(s, " ".repeat(384) + RULE, 1);
        reads(s, RULE + " ".repeat(384), 1);
        reads(s, RULE.repeat(14) + "\n".repeat(160) + RULE, 15);
    }

    private static SandDots blanks(int n) {
        SandDots x = new SandDots();
        Checks.feedText(x, " ".repeat(n));
        return x;
    }

    private static void tokens(Sentences s) {
        s.term("TOKENS: NAMES (letters a to z, 6 at most),");
        faulty(s, "if evena 1 say 1;", 1, 3);
        faulty(s, "if evenz 1 say 1;", 1, 3);
        faulty(s, "if even` 1 say 1;", 1, 7);
        faulty(s, "if even{ 1 say 1;", 1, 7);
        faulty(s, "if evenA 1 say 1;", 1, 7);
        faulty(s, "if evenZ 1 say 1;", 1, 7);
        faulty(s, "if " + "z".repeat(6) + " 1 say 1;", 1, 3);
        faulty(s, "if " + "z".repeat(7) + " 1 say 1;", 1, 3);
        faulty(s, "if eveneven 1 say 1;", 1, 3);
        faulty(s, "z".repeat(400), 1, 0);
        s.term("NUMBERS (figures, 4 at most),");
        reads(s, "if even 0 say 9;", 1);
        reads(s, "if even 9 say 0;", 1);
        reads(s, "if even 0015 say 9999;", 1);
        reads(s, "if pass 0011 say 0000;", 1);
        faulty(s, "if even 00015 say 1;", 1, 8);
        faulty(s, "if even 1 say 00001;", 1, 14);
        faulty(s, "if even 1 say 10000;", 1, 14);
        faulty(s, "if even 1 say 4294967297;", 1, 14);
        faulty(s, "if even " + "0".repeat(392), 1, 8);
        faulty(s, "if even 1/ say 1;", 1, 9);
        faulty(s, "if even 1: say 1;", 1, 9);
        faulty(s, "if even -1 say 1;", 1, 8);
    }

    private static void names(Sentences s) {
        s.term("TOKENS: NAMES (letters a to z, 6 at most),");
        String text = "if fig 0 at 0 and same 1 2 and pass 3 and even 4 say 5;";
        reads(s, text, 1);
        for (String name : new String[] {"if", "fig", "at", "and", "same", "pass", "even", "say"}) {
            int place = text.indexOf(name);
            for (int more = 1; more <= 9; more++) {
                String letters = "abcdefghi".substring(0, more);
                faulty(s, text.replaceFirst(name, letters + name), 1, place);
                faulty(s, text.replaceFirst(name, name + letters), 1, place);
            }
            faulty(s, text.replaceFirst(name, name.substring(1)), 1, place);
            faulty(s, text.replaceFirst(name, name.substring(0, name.length() - 1)), 1, place);
            faulty(s, text.replaceFirst(name, name.toUpperCase()), 1, place);
            faulty(s, text.replaceFirst(name, "" + (char) (name.charAt(0) + 128) + name.substring(1)), 1, place);
        }
    }

    private static void signsAndBlanks(Sentences s) {
        s.term("SIGNS ; bytes 32 and 10 between.");
        reads(s, "if even 1 say 1 ;", 1);
        faulty(s, "if even 1 say 1:", 1, 15);
        faulty(s, "if even 1 say 1<", 1, 15);
        faulty(s, "if even 1 say 1;;", 1, 16);
        reads(s, "\n if\n\neven \n 1  say\n1 \n;\n ", 1);
        reads(s, "if even1say1;", 1);
        faulty(s, "ifeven 1 say 1;", 1, 0);
        faulty(s, "if same 11 say 1;", 1, 11);
        for (char other : new char[] {0, 9, 11, 12, 13, 31, 33, 127, 128, 138, 160, 255}) {
            faulty(s, "if even" + other + "1 say 1;", 1, 7);
        }
    }

    private static void text(Sentences s) {
        s.term("text: { 'if' test { 'and' test } 'say' NUMBER ';' },");
        reads(s, "", 0);
        reads(s, " \n", 0);
        reads(s, RULE, 1);
        reads(s, RULE + RULE, 2);
        reads(s, RULE.repeat(15), 15);
        reads(s, FOUR + " say 1;", 1);
        String[] broken = {"even 1 say 1;", "if say 1;", "if and even 1 say 1;", "if even 1 and say 1;",
            "if even 1 and and even 2 say 1;", "if even 1 even 2 say 1;", "if even 1;", "if even 1 say;",
            "if even 1 say say 1;", "if even 1 say 1 2;", "if even 1 say 1 if even 1 say 1;", "if even 1 say even;", ";",
            "if if even 1 say 1;", "if even 1 say 1; say 1;", "if even 1 say 1; and even 1 say 1;", "if even 1 if"};
        int[] places = {0, 3, 3, 14, 14, 10, 9, 13, 14, 16, 16, 14, 0, 3, 17, 17, 10};
        for (int k = 0; k < broken.length; k++) {
            faulty(s, broken[k], 1, places[k]);
        }
    }

    private static void tests(Sentences s) {
        s.term("test: 'fig' NUMBER 'at' NUMBER (that FIGURE stands at that PLACE)");
        // 4660 has 4 3 2 1 10 6 1 0 7 3 12 1 4 13 9 13 at its places.
        int[] chart = PlainCharts.ofCode(4660);
        for (int place = 0; place <= 15; place++) {
            for (int figure = 0; figure <= 15; figure++) {
                holdsIn(s, 4660, "fig " + figure + " at " + place, chart[place] == figure);
            }
        }
        holdsIn(s, 65535, "fig 15 at 15", true);
        for (String broken : new String[] {"if fig", "if fig 1", "if fig 1 at"}) {
            faulty(s, broken, 1, broken.length());
        }
        faulty(s, "if fig at 1 say 1;", 1, 7);
        faulty(s, "if fig 1 1 say 1;", 1, 9);
        faulty(s, "if fig 1 say 1;", 1, 9);
        faulty(s, "if fig 1 and even 1 say 1;", 1, 9);
        faulty(s, "if fig 1 at say 1;", 1, 12);
        faulty(s, "if fig 1 at 1 1 say 1;", 1, 14);
        s.term("'same' NUMBER NUMBER (like FIGURES at both PLACES)");
        for (int a = 0; a <= 15; a++) {
            for (int b = 0; b <= 15; b++) {
                holdsIn(s, 4660, "same " + a + " " + b, chart[a] == chart[b]);
            }
        }
        faulty(s, "if same", 1, 7);
        faulty(s, "if same 1", 1, 9);
        faulty(s, "if same 1 say 1;", 1, 10);
        faulty(s, "if same 1 at 1 say 1;", 1, 10);
        faulty(s, "if same 1 2 3 say 1;", 1, 12);
    }

    private static void holdsIn(Sentences s, int code, String tests, boolean so) {
        SandDots x = new SandDots();
        Checks.read(x, "if " + tests + " say 1;");
        x.chart(code);
        s.due(tests + " in " + code, x.holds(0), so ? 1 : 0);
    }

    private static void pass(Sentences s) {
        s.term("'pass' NUMBER (the FIGURE at PLACE 0 stands at that many PLACES of 1 to 11, or more)");
        // CHART 0 has its 0 at all places, 4660 has its 4 at 12 only.
        passes(s, 0, 11);
        passes(s, 4660, 0);
        for (int code : new int[] {1, 51, 256, 257, 4096, 4369, 22581, 32768, 65535}) {
            int[] chart = PlainCharts.ofCode(code);
            int times = 0;
            for (int place = 1; place <= 11; place++) {
                times += chart[place] == chart[0] ? 1 : 0;
            }
            passes(s, code, times);
        }
        holdsIn(s, onlyAt(1), "pass 1", true);
        holdsIn(s, onlyAt(11), "pass 1", true);
        holdsIn(s, onlyAt(12), "pass 1", false);
        holdsIn(s, onlyAt(15), "pass 1", false);
        faulty(s, "if pass", 1, 7);
        faulty(s, "if pass say 1;", 1, 8);
        faulty(s, "if pass 1 1 say 1;", 1, 10);
    }

    private static void passes(Sentences s, int code, int times) {
        for (int number = 1; number <= 11; number++) {
            holdsIn(s, code, "pass " + number, times >= number);
        }
    }

    /** The first chart that has the figure of PLACE 0 at just one other. */
    private static int onlyAt(int place) {
        for (int code = 0; code < 65536; code++) {
            int[] chart = PlainCharts.ofCode(code);
            int places = 0;
            for (int other = 1; other <= 15; other++) {
                places |= chart[other] == chart[0] ? 1 << other : 0;
            }
            if (places == 1 << place) {
                return code;
            }
        }
        return -1;
    }

    private static void even(Sentences s) {
        s.term("'even' NUMBER (an EVEN one stands there).");
        boolean[] isEven = {true, false, false, true, false, true, true, false, false, true, true, false, true, false,
            false, true};
        for (int figure = 0; figure <= 15; figure++) {
            holdsIn(s, figure, "even 0", isEven[figure]);
        }
        for (int code : new int[] {0, 4660, 65535}) {
            for (int place = 0; place <= 15; place++) {
                holdsIn(s, code, "even " + place, isEven[PlainCharts.ofCode(code)[place]]);
            }
        }
        faulty(s, "if even", 1, 7);
        faulty(s, "if even say 1;", 1, 8);
        faulty(s, "if even 1 1 say 1;", 1, 10);
    }

    private static void allTests(Sentences s) {
        s.term("A RULE holds, if all its tests do;");
        for (int wrong = -1; wrong < 4; wrong++) {
            for (int tests = 1; tests <= 4; tests++) {
                StringBuilder rule = new StringBuilder();
                for (int test = 0; test < tests; test++) {
                    rule.append(test == 0 ? "" : " and ").append(test == wrong ? "fig 1 at " : "fig 0 at ").append(test);
                }
                holdsIn(s, 0, rule.toString(), wrong < 0 || wrong >= tests);
            }
        }
    }

    private static void whatIsSaid(Sentences s) {
        s.term("what is SAID: the NUMBER (0 to 9999) of the first RULE that holds.");
        SandDots x = new SandDots();
        Checks.read(x, "if fig 1 at 0 say 0;if fig 2 at 0 say 9999;if even 0 say 5;if even 0 say 6;");
        x.chart(1);
        s.due("the least number", x.said(0), 0);
        x.chart(2);
        s.due("the greatest number", x.said(0), 9999);
        x.chart(0);
        s.due("the first of two", x.said(0), 5);
        x.chart(4);
        s.due("none of four", x.said(0), SandDots.NONE);
        s.due("a number above is refused", Checks.read(x, "if even 0 say 10000;"), -1000114);
        StringBuilder text = new StringBuilder();
        for (int rule = 0; rule < 15; rule++) {
            text.append("if fig ").append(rule).append(" at 0 say ").append(100 + rule).append(';');
        }
        Checks.read(x, text.toString());
        for (int rule = 0; rule < 15; rule++) {
            x.chart(rule);
            s.due("rule " + rule + " of 15", x.said(0), 100 + rule);
        }
        x.chart(15);
        s.due("none of 15", x.said(0), SandDots.NONE);
    }

    private static void faultsInTime(Sentences s) {
        s.term("FAULTS, the first TOKEN that has one (its first byte), of one TOKEN the least:");
        faulty(s, "if even 16 say 12345;", 2, 8);
        faulty(s, "if even 12345 and even 16 say 1;", 1, 8);
        faulty(s, "if fig 16 16", 2, 7);
        faulty(s, "if fig 16 at 16 say 1;", 2, 7);
        faulty(s, FOUR + " and even 16 say 1;", 3, 43);
        faulty(s, "if even 1 and even 2 and even 3 and even 16 and even 5 say 1;", 2, 41);
        faulty(s, RULE.repeat(15) + "if if", 3, 240);
        faulty(s, RULE.repeat(14) + "if even 16 say 1;" + RULE, 2, 232);
        faulty(s, "   16 say 1;", 1, 3);
        faulty(s, "if even 1 99 say 1;", 1, 10);
        faulty(s, "if even 99999 say 1;", 1, 8);
        faulty(s, "?", 1, 0);
        faulty(s, " ".repeat(399) + "?", 1, 399);
        faulty(s, " ".repeat(399) + ";", 1, 399);
    }

    private static void cannotStand(Sentences s) {
        s.term("1 it cannot stand there, or is none (the end: how many bytes there are);");
        faulty(s, "at", 1, 0);
        faulty(s, "iff even 1 say 1;", 1, 0);
        faulty(s, "if odd 1 say 1;", 1, 3);
        faulty(s, "if even 1 or even 2 say 1;", 1, 10);
        faulty(s, "if even 1 . say 1;", 1, 10);
        for (int end = 1; end < RULE.length(); end++) {
            String cut = RULE.substring(0, end);
            boolean wordIsCut = cut.matches("i|if e|if ev|if eve|.* s|.* sa");
            faulty(s, cut, 1, wordIsCut ? cut.lastIndexOf(' ') + 1 : end);
        }
        faulty(s, "if even 1 say 1 \n ", 1, 18);
        faulty(s, RULE + " if", 1, 19);
        faulty(s, RULE.repeat(24) + "if even 1 say 12", 3, 240);
        faulty(s, RULE + " ".repeat(369) + "if even 1 say 1", 1, 400);
        faulty(s, "if" + " ".repeat(398), 1, 400);
    }

    private static void outOfRange(Sentences s) {
        s.term("2 a FIGURE, PLACE above 15, a number of 'pass' that is 0, or above 11;");
        reads(s, "if fig 0 at 0 and fig 15 at 15 and same 0 15 and same 15 0 say 1;", 1);
        reads(s, "if even 0 and even 15 and pass 1 and pass 11 say 1;", 1);
        faulty(s, "if fig 16 at 0 say 1;", 2, 7);
        faulty(s, "if fig 9999 at 0 say 1;", 2, 7);
        faulty(s, "if fig 0 at 16 say 1;", 2, 12);
        faulty(s, "if fig 0 at 9999 say 1;", 2, 12);
        faulty(s, "if same 16 0 say 1;", 2, 8);
        faulty(s, "if same 0 16 say 1;", 2, 10);
        faulty(s, "if even 16 say 1;", 2, 8);
        faulty(s, "if even 0016 say 1;", 2, 8);
        faulty(s, "if pass 0 say 1;", 2, 8);
        faulty(s, "if pass 0000 say 1;", 2, 8);
        faulty(s, "if pass 12 say 1;", 2, 8);
        faulty(s, "if pass 15 say 1;", 2, 8);
        faulty(s, "if pass 9999 say 1;", 2, 8);
    }

    private static void tooMany(Sentences s) {
        s.term("3 the 5th test of a RULE (its 'and');");
        reads(s, FOUR + " say 1;", 1);
        faulty(s, FOUR + " and even 5 say 1;", 3, 43);
        faulty(s, FOUR + "and", 3, 42);
        faulty(s, FOUR + "\n\nand ?", 3, 44);
        faulty(s, FOUR + " say 1;" + FOUR + " and even 5 say 1;", 3, 49 + 43);
        reads(s, FOUR + " say 1;" + FOUR + " say 1;", 2);
        faulty(s, FOUR + " if", 1, 43);
        s.term("the 16th RULE (its 'if').");
        reads(s, RULE.repeat(15), 15);
        faulty(s, RULE.repeat(16), 3, 240);
        faulty(s, RULE.repeat(15) + "if", 3, 240);
        faulty(s, RULE.repeat(15) + "\n if ?", 3, 242);
        faulty(s, RULE.repeat(15) + "iff", 1, 240);
        faulty(s, RULE.repeat(15) + "and", 1, 240);
        faulty(s, RULE.repeat(25), 3, 240);
    }

    private static void feed(Sentences s) {
        s.promise(13, "The lowest n bytes of w (1 to 8), the highest of them first, come behind the tape: how many it has.");
        byte[] text = RULE.getBytes(StandardCharsets.ISO_8859_1);
        for (int n = 1; n <= 8; n++) {
            SandDots x = new SandDots();
            for (int from = 0; from < text.length; from += n) {
                int bytes = Math.min(n, text.length - from);
                long above = bytes == 8 ? 0 : -1L << 8 * bytes;
                s.due(bytes + " bytes", x.feed(above | Checks.word(text, from, bytes), bytes), from + bytes);
            }
            s.due("fed by " + n, x.rules(), 1);
        }
        SandDots x = new SandDots();
        s.due("a byte that is 255", x.feed(-1L, 1), 1);
        s.due("it is a byte that cannot stand", x.rules(), -1000100);
        s.due("a byte that is 0 is a byte", x.feed(0, 1), 1);
        s.due("it cannot stand, either", x.rules(), -1000100);
        Checks.feedText(x, RULE);
        s.due("eight bytes, the highest of them above 127", x.feed(0x8020202020202020L, 8), 24);
        s.due("it stands behind the rule", x.rules(), -1000116);
        s.due("the least w", x.feed(Long.MIN_VALUE, 8), 8);
        s.due("the greatest w", x.feed(Long.MAX_VALUE, 8), 16);
    }

    private static void feedRefused(Sentences s) {
        s.promise(13, "BAD: n;");
        SandDots x = blanks(8);
        for (int n : new int[] {-1, 0, 9, LEAST, MOST}) {
            s.due("n " + n, x.feed('?', n), SandDots.BAD);
            s.due("none came", x.count(5), 8);
        }
        s.due("the tape stays", x.rules(), 0);
        s.promise(13, "FULL: none comes.");
        for (int n = 1; n <= 8; n++) {
            SandDots y = blanks(400 - n);
            for (int more = n + 1; more <= 8; more++) {
                s.due(more + " where " + n + " have room", y.feed(-1, more), SandDots.FULL);
                s.due("none came", y.count(5), 400 - n);
            }
            s.due(n + " where " + n + " have room", y.feed(0x2020202020202020L, n), 400);
            s.due("one more", y.feed(-1, 1), SandDots.FULL);
            s.due("BAD goes ahead of FULL", y.feed(-1, 9), SandDots.BAD);
            s.due("BAD goes ahead of FULL", y.feed(-1, 0), SandDots.BAD);
            s.due("the tape stays", y.rules(), 0);
            s.due("there is room again", y.feed(-1, 8), 8);
        }
    }

    private static void rules(Sentences s) {
        s.promise(14, "The tape, empty then, is read: how many RULES; they are these from now on.");
        SandDots x = new SandDots();
        s.due("an empty tape", x.rules(), 0);
        s.due("15 rules", Checks.read(x, RULE.repeat(15)), 15);
        s.due("the tape is empty", x.count(5), 0);
        s.due("they are 15", x.count(1), 15);
        s.due("the last of them", x.holds(14), 1);
        s.due("none behind it", x.holds(15), SandDots.BAD);
        s.due("one in place of 15", Checks.read(x, "if fig 1 at 0 say 9;"), 1);
        s.due("it is another", x.holds(0), 0);
        s.due("there is none of the others", x.holds(1), SandDots.BAD);
        s.due("four tests in place of one", Checks.read(x, "if fig 0 at 0 and fig 0 at 1 and fig 0 at 2 and even 3 say 1;"), 1);
        x.chart(0x1111);
        for (int times = 1; times <= 3; times++) {
            s.due("one in place of four, read " + times + " times", Checks.read(x, "if fig 1 at 0 say 2;"), 1);
            s.due("none of the four is left", x.holds(0), 1);
        }
        s.due("an empty tape, again", x.rules(), 0);
        s.due("no rules", x.count(1), 0);
        s.due("none of them", x.holds(0), SandDots.BAD);
        s.due("a tape of blanks", Checks.read(x, " ".repeat(400)), 0);
        s.due("the tape is empty", x.count(5), 0);
    }

    private static void rulesWithAFault(Sentences s) {
        s.promise(14, "-1000100 less the place of a FAULT: all stays.");
        String[] faulty = {"?", "if even 1 say 9;?", "if even 16 say 9;", RULE.repeat(16), "if even 0 say 9;if",
            " ".repeat(399) + "?", "if" + " ".repeat(398)};
        int[] places = {0, 16, 8, 240, 18, 399, 400};
        for (int k = 0; k < faulty.length; k++) {
            SandDots x = new SandDots();
            Checks.read(x, "if even 0 say 5;if fig 1 at 0 and even 1 say 6;");
            x.record(1);
            x.ask(1, 0);
            x.drop(0);
            s.due("the place", Checks.read(x, faulty[k]), -1000100 - places[k]);
            s.due("the rules are as many", x.count(1), 2);
            s.due("the first says what it said", x.said(0), 5);
            s.due("and holds as it did", x.holds(0), 1);
            s.due("the second, too", x.holds(1), 0);
            s.due("the book stays", x.count(2), 1);
            s.due("the worth stays", x.worth(0, 1), 1);
            s.due("THE CHART stays", x.count(6), 0);
            s.due("THE TRACE stays", x.trace(0), 13);
            s.due("status() stays", x.status(), 1);
            s.due("the tape was read", x.count(5), 0);
            x.chart(1);
            s.due("the second holds where it did", x.said(0), 6);
            s.due("an empty tape behind it has no rules", x.rules(), 0);
        }
    }

    private static void fault(Sentences s) {
        s.promise(15, "The number of the latest FAULT;");
        SandDots x = new SandDots();
        String[] texts = {"if even 16 say 1;", "?", RULE.repeat(16), "if pass 0 say 1;"};
        int[] numbers = {2, 1, 3, 2};
        for (int k = 0; k < texts.length; k++) {
            Checks.read(x, texts[k]);
            s.due("of " + texts[k], x.fault(), numbers[k]);
            s.due("asked again", x.fault(), numbers[k]);
        }
        Checks.read(x, RULE);
        s.due("a text without one leaves it", x.fault(), 2);
        x.feed(-1, 9);
        x.feed('?', 1);
        s.due("a text that is not read leaves it", x.fault(), 2);
        s.promise(15, "0 before one.");
        x = new SandDots();
        s.due("at first", x.fault(), 0);
        Checks.read(x, RULE);
        x.rules();
        x.drop(0);
        x.feed(-1, 8);
        s.due("behind texts without one", x.fault(), 0);
    }

    private static void said(Sentences s) {
        s.promise(16, "Of THE CHART: what is SAID (what = 0), the number of the RULE that says it (1);");
        SandDots x = new SandDots();
        Checks.read(x, "if fig 9 at 0 say 7;".repeat(14) + "if fig 1 at 0 say 0;");
        x.chart(1);
        s.due("the last of 15 says", x.said(0), 0);
        s.due("its number", x.said(1), 14);
        x.chart(9);
        s.due("the first of 15 says", x.said(0), 7);
        s.due("its number", x.said(1), 0);
        s.promise(16, "NONE: none holds.");
        x.chart(0);
        s.due("said", x.said(0), SandDots.NONE);
        s.due("the number", x.said(1), SandDots.NONE);
        x.rules();
        s.due("said, without rules", x.said(0), SandDots.NONE);
        s.due("the number, without rules", x.said(1), SandDots.NONE);
        s.promise(16, "BAD.");
        for (int what : new int[] {-1, 2, LEAST, MOST}) {
            s.due("what " + what + ", without rules", x.said(what), SandDots.BAD);
        }
        Checks.read(x, RULE);
        for (int what : new int[] {-1, 2, LEAST, MOST}) {
            s.due("what " + what, x.said(what), SandDots.BAD);
        }
    }

    private static void holds(Sentences s) {
        s.promise(17, "Whether a RULE holds in THE CHART: 1, 0.");
        SandDots x = new SandDots();
        Checks.read(x, RULE.repeat(14) + "if fig 1 at 0 say 0;");
        s.due("the first of 15", x.holds(0), 1);
        s.due("the 14th, whichever come ahead", x.holds(13), 1);
        s.due("the last of 15", x.holds(14), 0);
        x.chart(17);
        s.due("the first, in another chart", x.holds(0), 0);
        s.due("the last, in another chart", x.holds(14), 1);
        s.promise(17, "BAD.");
        for (int rule : new int[] {-1, 15, LEAST, MOST}) {
            s.due("rule " + rule + " of 15", x.holds(rule), SandDots.BAD);
        }
        x.rules();
        for (int rule : new int[] {-1, 0, 1}) {
            s.due("rule " + rule + " of none", x.holds(rule), SandDots.BAD);
        }
    }
}
