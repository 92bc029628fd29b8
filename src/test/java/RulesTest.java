/** Promises 13 to 17. */
public final class RulesTest {
    private static final Checks checks = new Checks();
    private static final String EVEN = "if even 1 say 1;";

    public static void main(String[] args) {
        feed();
        feedUpToTheEnd();
        rules();
        tokens();
        faultsOfStanding();
        faultsOfRange();
        faultsOfNumber();
        faultsLeaveAll();
        said();
        eachTest();
        holds();
        checks.end();
    }

    private static void feed() {
        SandDots x = new SandDots();
        checks.due("13: one byte", x.feed(-1, 1), 1);
        checks.due("13: eight bytes", x.feed(0, 8), 9);
        checks.due("13: n 0", x.feed(0, 0), SandDots.BAD);
        checks.due("13: n 9", x.feed(0, 9), SandDots.BAD);
        checks.due("13: n below 0", x.feed(0, Integer.MIN_VALUE), SandDots.BAD);
        checks.due("13: BAD changed nothing", x.count(5), 9);
        x = new SandDots();
        x.feed(0x4141416966206576L, 5);
        x.feed(0x656e203120736179L, 8);
        x.feed(0x4141414141203533L, 3);
        x.feed(0x3bL, 1);
        checks.due("13: the lowest bytes, the highest of them first", x.rules(), 1);
        checks.due("13: they say", x.said(0), 53);
    }

    private static void feedUpToTheEnd() {
        SandDots x = new SandDots();
        for (int k = 1; k <= 49; k++) {
            checks.due("13: blanks", x.feed(0x2020202020202020L, 8), 8 * k);
        }
        checks.due("13: 397 bytes", x.feed(0x2020202020L, 5), 397);
        checks.due("13: four more are too many", x.feed(0x41414141L, 4), SandDots.FULL);
        checks.due("13: BAD goes ahead of FULL", x.feed(0, 9), SandDots.BAD);
        checks.due("13: none of them came", x.count(5), 397);
        checks.due("13: three more are not", x.feed(0x202020L, 3), 400);
        checks.due("13: the tape is full", x.feed(0x20L, 1), SandDots.FULL);
        checks.due("14: blanks alone are no rules", x.rules(), 0);
        checks.due("14: the tape is empty", x.count(5), 0);
        checks.due("13: there is room again", x.feed(0, 8), 8);
    }

    private static void rules() {
        SandDots x = new SandDots();
        checks.due("14: an empty tape", x.rules(), 0);
        checks.due("14: one rule", Checks.read(x, EVEN), 1);
        checks.due("14: the tape is empty", x.count(5), 0);
        checks.due("14: count of rules", x.count(1), 1);
        checks.due("14: three rules", Checks.read(x, EVEN + "if pass 11 say 2;\nif same 0 15 say 3;"), 3);
        checks.due("14: count of rules", x.count(1), 3);
        checks.due("14: these, not those, too", Checks.read(x, EVEN), 1);
        checks.due("14: 15 rules", Checks.read(x, EVEN.repeat(15)), 15);
        checks.due("14: four tests", Checks.read(x, "if even 1 and even 2 and same 3 4 and pass 5 say 6;"), 1);
        for (int place = 0; place < 4; place++) {
            checks.due("14: one rule, anew", Checks.read(x, "if fig 1 at " + place + " say 1;"), 1);
            x.chart(1 << 4 * place);
            checks.due("14: nothing is left of earlier tests", x.holds(0), 1);
        }
        checks.due("14: no rules in place of one", x.rules(), 0);
        checks.due("14: count of rules", x.count(1), 0);
    }

    private static void tokens() {
        SandDots x = new SandDots();
        checks.due("14: blanks where they may be", Checks.read(x, " \n if\neven \n 1 say  1 ; \n"), 1);
        checks.due("14: no blanks where none is needed", Checks.read(x, "if even1say1;if same 1 2and fig3at4say5;"), 2);
        checks.due("14: four figures", Checks.read(x, "if even 0015 say 9999;"), 1);
        checks.due("14: and five", Checks.read(x, "if even 00001 say 9999;"), -1000108);
        checks.due("14: a letter too many", Checks.read(x, "if evens 1 say 1;"), -1000103);
        checks.due("14: the first and the last letter", Checks.read(x, "if evenaz 1 say 1;"), -1000103);
        checks.due("14: words joined", Checks.read(x, "ifeven 1 say 1;"), -1000100);
        checks.due("14: a word that ends like another", Checks.read(x, "if xxsame 1 1 say 1;"), -1000103);
        checks.due("14: a long word that ends like another", Checks.read(x, "if aaaaeven 1 say 1;"), -1000103);
        checks.due("14: a capital", Checks.read(x, "If even 1 say 1;"), -1000100);
        checks.due("14: a capital within", Checks.read(x, "if eVen 1 say 1;"), -1000103);
        for (char other : new char[] {0, 9, 13, '/', ':', '`', '{', '-', 127, 128, 255, 'i' + 128}) {
            checks.due("14: byte " + (int) other, Checks.read(x, "if even 1 " + other + "say 1;"), -1000110);
            checks.due("15: byte " + (int) other, x.fault(), 1);
        }
        checks.due("14: a byte that is none, behind all", Checks.read(x, EVEN + "?"), -1000116);
    }

    private static void faultsOfStanding() {
        String[] texts = {"even 1 say 1;", "if 1 say 1;", "if even say 1;", "if even 1 say;", "if even 1 say 1 if",
            "if even 1;", "if fig 1 2 say 1;", "if fig at 2 say 1;", "if fig 1 at at 2 say 1;", "if same 1 at 2 say 1;",
            "if same 1 say 1;", "if even 1 2 say 1;", "if even 1 and say 1;", "if even 1 even 2 say 1;",
            "if even 1 say 1;;", "; if even 1 say 1;", "if even 1 say 12345;", "if even 1 say 1", "if even 1 say 1 \n ",
            "if", "if even 1 say ", "if and even 1 say 1;", "if pass say 1;", "if even 123456 say 1;", "if say 1;",
            "12345", "abcdefg"};
        int[] places = {0, 3, 8, 13, 16, 9, 9, 7, 12, 10, 10, 10, 14, 10, 16, 0, 14, 15, 18, 2, 14, 3, 8, 8, 3, 0, 0};
        for (int k = 0; k < texts.length; k++) {
            faulty(texts[k], 1, places[k]);
        }
    }

    private static void faultsOfRange() {
        faulty("if fig 16 at 0 say 1;", 2, 7);
        faulty("if fig 15 at 16 say 1;", 2, 13);
        faulty("if same 16 0 say 1;", 2, 8);
        faulty("if same 15 16 say 1;", 2, 11);
        faulty("if even 16 say 1;", 2, 8);
        faulty("if even 9999 say 1;", 2, 8);
        faulty("if pass 0 say 1;", 2, 8);
        faulty("if pass 000 say 1;", 2, 8);
        faulty("if pass 12 say 1;", 2, 8);
        faulty("if even 16 16 say 1;", 2, 8);
        faulty("if even 99999 say 1;", 1, 8);
        faulty("if fig 15 at 15 and same 15 15 and pass 11 and even 16 say 1;", 2, 52);
        checksNoFault("if fig 15 at 15 and same 15 15 and pass 11 and even 15 say 9999;");
        checksNoFault("if fig 0 at 0 and same 0 0 and pass 1 and even 0 say 0;");
    }

    private static void faultsOfNumber() {
        faulty("if even 1 and even 2 and even 3 and even 4 and even 5 say 1;", 3, 43);
        faulty("if even 1 and even 2 and even 3 and even 4 and", 3, 43);
        faulty("if even 1 and even 2 and even 3 and even 4 or", 1, 43);
        faulty(EVEN.repeat(15) + "if", 3, 240);
        faulty(EVEN.repeat(15) + "  if even 16 say 1;", 3, 242);
        faulty(EVEN.repeat(15) + ";", 1, 240);
        checksNoFault(EVEN.repeat(15));
    }

    private static void faulty(String text, int number, int place) {
        SandDots x = new SandDots();
        checks.due("14: the place in " + text, Checks.read(x, text), -1000100 - place);
        checks.due("15: the fault in " + text, x.fault(), number);
        checks.due("14: the tape is empty behind " + text, x.count(5), 0);
        checks.due("14: no rules of " + text, x.count(1), 0);
    }

    private static void checksNoFault(String text) {
        SandDots x = new SandDots();
        checks.isTrue("14: rules in " + text, Checks.read(x, text) > 0);
        checks.due("15: no fault in " + text, x.fault(), 0);
    }

    private static void faultsLeaveAll() {
        SandDots x = new SandDots();
        Checks.read(x, "if even 0 say 5;if even 0 say 6;");
        checks.due("14: a fault in the third of three", Checks.read(x, "if even 0 say 7;if even 1 say 8;if odd"), -1000135);
        checks.due("14: the rules stay", x.count(1), 2);
        checks.due("14: and say what they said", x.said(0), 5);
        checks.due("15: fault 1", x.fault(), 1);
        Checks.read(x, "if even 16 say 1;");
        checks.due("15: the latest fault", x.fault(), 2);
        Checks.read(x, EVEN);
        checks.due("15: it is the latest, still", x.fault(), 2);
        checks.due("14: rules behind a fault", x.said(0), 1);
    }

    private static void said() {
        SandDots x = new SandDots();
        checks.due("16: no rules", x.said(0), SandDots.NONE);
        Checks.read(x, "if fig 3 at 0 say 70;if fig 4 at 0 say 0;if fig 4 at 0 and even 4 say 72;if same 1 1 say 9999;");
        x.chart(4660);
        checks.due("16: the first that holds says", x.said(0), 0);
        checks.due("16: which it is", x.said(1), 1);
        x.chart(3);
        checks.due("16: another chart", x.said(0), 70);
        checks.due("16: which it is", x.said(1), 0);
        x.chart(0);
        checks.due("16: the last", x.said(0), 9999);
        checks.due("16: which it is", x.said(1), 3);
        checks.due("16: what 2", x.said(2), SandDots.BAD);
        checks.due("16: what -1", x.said(-1), SandDots.BAD);
        Checks.read(x, "if fig 3 at 0 say 70;");
        checks.due("16: none holds", x.said(0), SandDots.NONE);
        checks.due("16: none holds, which it is", x.said(1), SandDots.NONE);
    }

    private static void eachTest() {
        // 4660 has 4 3 2 1 10 6 1 0 7 3 12 1 4 13 9 13 at its places.
        isSo(4660, "fig 13 at 15", true);
        isSo(4660, "fig 15 at 13", false);
        isSo(4660, "fig 9 at 14", true);
        isSo(4660, "same 13 15", true);
        isSo(4660, "same 0 12", true);
        isSo(4660, "same 12 13", false);
        isSo(4660, "even 4", true);
        isSo(4660, "even 7", true);
        isSo(4660, "even 0", false);
        isSo(4660, "even 8", false);
        isSo(4660, "pass 1", false);
        isSo(0, "pass 11", true);
        // 51 has 3 3 0 0 3 3 0 0 0 0 0 0 0 0 0 3: the first one's own place, and the end, do not count.
        isSo(51, "pass 3", true);
        isSo(51, "pass 4", false);
        isSo(51, "even 0 and same 0 1 and same 2 3 and fig 3 at 15", true);
        isSo(51, "even 0 and same 0 1 and same 2 3 and fig 3 at 14", false);
        isSo(51, "same 0 2 and even 0", false);
        // 257 has 1 0 1 0 5 0 0 0 1 1 5 0 0 5 5 4: place 11 counts, place 12 does not.
        isSo(257, "pass 3", true);
        isSo(257, "pass 4", false);
        countsUpToPlace11();
    }

    private static void isSo(int code, String tests, boolean so) {
        SandDots x = new SandDots();
        Checks.read(x, "if " + tests + " say 1;");
        x.chart(code);
        checks.due("17: " + tests + " in " + code, x.holds(0), so ? 1 : 0);
    }

    private static void countsUpToPlace11() {
        SandDots x = new SandDots();
        StringBuilder text = new StringBuilder();
        for (int n = 1; n <= 11; n++) {
            text.append("if pass ").append(n).append(" say 1;");
        }
        Checks.read(x, text.toString());
        int wrong = 0;
        for (int code = 0; code < 65536; code += 7) {
            x.chart(code);
            int[] chart = PlainCharts.ofCode(code);
            int times = 0;
            for (int place = 1; place <= 11; place++) {
                times += chart[place] == chart[0] ? 1 : 0;
            }
            for (int n = 1; n <= 11; n++) {
                wrong += x.holds(n - 1) == (times >= n ? 1 : 0) ? 0 : 1;
            }
        }
        checks.due("17: answers of 'pass' that are wrong", wrong, 0);
    }

    private static void holds() {
        SandDots x = new SandDots();
        checks.due("17: no rules", x.holds(0), SandDots.BAD);
        Checks.read(x, "if even 0 say 1;if fig 1 at 0 say 2;if even 0 say 3;");
        checks.due("17: it holds", x.holds(0), 1);
        checks.due("17: it does not", x.holds(1), 0);
        checks.due("17: it holds, whichever come ahead", x.holds(2), 1);
        checks.due("17: no such rule, above", x.holds(3), SandDots.BAD);
        checks.due("17: no such rule, below", x.holds(-1), SandDots.BAD);
        x.chart(1);
        checks.due("17: in another chart", x.holds(0), 0);
        checks.due("17: in another chart", x.holds(1), 1);
    }
}
