import java.util.ArrayList;
import java.util.Arrays;
import java.util.List;
import java.util.regex.Matcher;
import java.util.regex.Pattern;

/** The document's words once more, slowly and with the whole Java library, to hold the class against. */
final class PlainSandDots {
    private static final int NONE = -1000000, BAD = -1000001, FULL = -1000003;
    private static final Pattern TOKEN = Pattern.compile("[a-z]+|[0-9]+|;|[^ \n]");

    /** A call ends with a refusal or a finding. */
    private static final class Refused extends RuntimeException {
        private static final long serialVersionUID = 1;
        final int answer;

        Refused(int answer) {
            super(null, null, false, false);
            this.answer = answer;
        }
    }

    private record Sheet(int lane, int[] items) { }

    private record Test(String word, int a, int b) {
        boolean isTrueOf(int[] chart) {
            return switch (word) {
                case "fig" -> chart[b] == a;
                case "same" -> chart[a] == chart[b];
                case "pass" -> Arrays.stream(chart, 1, 12).filter(figure -> figure == chart[0]).count() >= a;
                default -> List.of(0, 3, 5, 6, 9, 10, 12, 15).contains(chart[a]);
            };
        }
    }

    private record Rule(List<Test> tests, int says) {
        boolean isTrueOf(int[] chart) {
            return tests.stream().allMatch(test -> test.isTrueOf(chart));
        }
    }

    private record Case(int code, int came) { }

    private final Sheet[] sheets = new Sheet[8];
    private final StringBuilder tape = new StringBuilder();
    private final List<Case> book = new ArrayList<>();
    private List<Rule> rules = List.of();
    private List<Integer> trace = List.of();
    private int code = 0;
    private int fault = 0;
    private int status = 0;

    /** One call by its name; numbers are ints but for feed's first. */
    int call(String name, long... n) {
        try {
            return (int) switch (name) {
                case "sheet" -> withSheet(sheet((int) n[0], (int) n[1], (int) n[2]));
                case "set" -> withSheet(set((int) n[0], (int) n[1], (int) n[2]));
                case "copy" -> withSheet(copy((int) n[0], (int) n[1], (int) n[2], (int) n[3], (int) n[4]));
                case "drop" -> withSheet(drop((int) n[0]));
                case "cast" -> withSheet(cast((int) n[0], (int) n[1]));
                case "chart" -> chart((int) n[0]);
                case "at" -> PlainCharts.ofCode(code)[within(n[0], 0, 15)];
                case "add" -> PlainCharts.added(within(n[0], 0, 15), within(n[1], 0, 15));
                case "seen" -> seen(within(n[0], 0, 15));
                case "point" -> PlainCharts.pointEnds(PlainCharts.ofCode(code));
                case "drawing" -> withSheet(drawing((int) n[0], (int) n[1], (int) n[2]));
                case "feed" -> feed(n[0], within(n[1], 1, 8));
                case "rules" -> rules();
                case "fault" -> fault;
                case "said" -> said(within(n[0], 0, 1));
                case "holds" -> rule(n[0]).isTrueOf(PlainCharts.ofCode(code)) ? 1 : 0;
                case "record" -> record(within(n[0], 0, 2));
                case "worth" -> worth(rule(n[0]), within(n[1], 0, 3));
                case "best" -> best();
                case "kind" -> kind(within(n[0], 0, 15));
                case "as" -> withSheet(as(within(n[0], 0, 15), within(n[1], 0, 3)));
                case "ask" -> ask(within(n[0], 0, 15), within(n[1], 0, 1));
                case "trace" -> n[0] >= 0 && n[0] < trace.size() ? trace.get((int) n[0]) : NONE;
                case "count" -> count((int) n[0]);
                case "status" -> status;
                default -> throw new IllegalArgumentException(name);
            };
        } catch (Refused refused) {
            return refused.answer;
        }
    }

    private static int within(long n, int least, int most) {
        if (n < least || n > most) {
            throw new Refused(BAD);
        }
        return (int) n;
    }

    private int withSheet(int answer) {
        status = 0;
        return answer;
    }

    private void findIf(boolean found, int finding) {
        if (found) {
            status = finding;
            throw new Refused(-1000010 - finding);
        }
    }

    private Sheet there(int sheet) {
        findIf(sheets[sheet] == null, 1);
        return sheets[sheet];
    }

    private int[] part(Sheet sheet, long from, long n) {
        findIf(from < 0 || n < 0 || from + n > sheet.items.length, 2);
        return Arrays.copyOfRange(sheet.items, (int) from, (int) (from + n));
    }

    private int sheet(int sheet, int lane, int n) {
        within(sheet, 0, 7);
        within(lane, 0, 2);
        within(n, Integer.MIN_VALUE, 60);
        findIf(n < 0, 4);
        sheets[sheet] = new Sheet(lane, new int[n]);
        return n;
    }

    private int set(int sheet, int i, int v) {
        Sheet to = there(within(sheet, 0, 7));
        part(to, i, 1);
        to.items[i] = to.lane == 0 ? (byte) v : to.lane == 1 ? (short) v : v;
        return to.items[i];
    }

    private int copy(int a, int i, int b, int j, int n) {
        within(a, 0, 7);
        within(b, 0, 7);
        Sheet from = there(a);
        Sheet to = there(b);
        findIf(from.lane != to.lane, 5);
        int[] items = part(from, i, n);
        part(to, j, n);
        for (int k = 0; k < n; k++) {
            to.items[j + k] = items[k];
        }
        return n;
    }

    private int drop(int sheet) {
        int had = there(within(sheet, 0, 7)).items.length;
        sheets[sheet] = null;
        return had;
    }

    private int cast(int sheet, int i) {
        int[] strokes = part(there(within(sheet, 0, 7)), i, 16);
        int cast = 0;
        for (int k = 15; k >= 0; k--) {
            cast = 2 * cast + within(strokes[k], 0, Integer.MAX_VALUE) % 2;
        }
        code = cast;
        return code;
    }

    private int chart(int newCode) {
        int was = code;
        code = within(newCode, 0, 65535);
        return was;
    }

    private int seen(int figure) {
        return (int) Arrays.stream(PlainCharts.ofCode(code)).filter(there -> there == figure).count();
    }

    private int drawing(int sheet, int i, int what) {
        within(sheet, 0, 7);
        within(what, 0, 4);
        int[] items = part(there(sheet), i, 16);
        for (int item : items) {
            within(item, -1, 15);
        }
        return PlainCharts.answersOf(items)[what];
    }

    private int feed(long w, int n) {
        if (tape.length() + n > 400) {
            return FULL;
        }
        for (int k = n - 1; k >= 0; k--) {
            tape.append((char) (w >>> 8 * k & 255));
        }
        return tape.length();
    }

    /** A text and the place where reading it stands. */
    private final class Text {
        final List<String> tokens = new ArrayList<>();
        final List<Integer> places = new ArrayList<>();
        int next = 0;

        Text(String text) {
            Matcher matcher = TOKEN.matcher(text);
            while (matcher.find()) {
                tokens.add(matcher.group());
                places.add(matcher.start());
            }
            tokens.add("");
            places.add(text.length());
        }

        void faultIf(boolean isFaulty, int number) {
            if (isFaulty) {
                fault = number;
                throw new Refused(-1000100 - places.get(next));
            }
        }

        boolean stands(String token) {
            return tokens.get(next).equals(token);
        }

        void take(String token) {
            faultIf(!stands(token), 1);
            next++;
        }

        int number(int least, int most) {
            faultIf(!tokens.get(next).matches("[0-9]{1,4}"), 1);
            int number = Integer.parseInt(tokens.get(next));
            faultIf(number < least || number > most, 2);
            next++;
            return number;
        }

        Test test() {
            String word = tokens.get(next);
            faultIf(!List.of("fig", "same", "pass", "even").contains(word), 1);
            next++;
            int a = word.equals("pass") ? number(1, 11) : number(0, 15);
            if (word.equals("fig")) {
                take("at");
            }
            return new Test(word, a, word.equals("fig") || word.equals("same") ? number(0, 15) : 0);
        }

        Rule rule() {
            take("if");
            List<Test> tests = new ArrayList<>(List.of(test()));
            while (stands("and")) {
                faultIf(tests.size() == 4, 3);
                take("and");
                tests.add(test());
            }
            take("say");
            int says = number(0, 9999);
            take(";");
            return new Rule(tests, says);
        }
    }

    private int rules() {
        Text text = new Text(tape.toString());
        tape.setLength(0);
        List<Rule> read = new ArrayList<>();
        while (!text.stands("")) {
            text.faultIf(read.size() == 15 && text.stands("if"), 3);
            read.add(text.rule());
        }
        rules = read;
        return rules.size();
    }

    private Rule rule(long rule) {
        return rules.get(within(rule, 0, rules.size() - 1));
    }

    private int said(int what) {
        for (Rule rule : rules) {
            if (rule.isTrueOf(PlainCharts.ofCode(code))) {
                return what == 0 ? rule.says : rules.indexOf(rule);
            }
        }
        return NONE;
    }

    private int record(int came) {
        if (book.size() == 100) {
            return FULL;
        }
        book.add(new Case(code, came));
        return book.size();
    }

    private int worth(Rule rule, int what) {
        List<Case> held = book.stream().filter(one -> rule.isTrueOf(PlainCharts.ofCode(one.code))).toList();
        int yes = with(held, 1);
        int no = with(held, 0);
        return switch (what) {
            case 0 -> held.size();
            case 1 -> yes;
            case 2 -> no;
            default -> yes * (with(book, 0) + with(book, 1)) - (yes + no) * with(book, 1);
        };
    }

    private static int with(List<Case> cases, int came) {
        return (int) cases.stream().filter(one -> one.came == came).count();
    }

    private int best() {
        int best = NONE;
        for (int rule = rules.size() - 1; rule >= 0; rule--) {
            if (best == NONE || worth(rules.get(rule), 3) >= worth(rules.get(best), 3)) {
                best = rule;
            }
        }
        return best;
    }

    private static int kind(int figure) {
        if (List.of(0, 6, 9, 15).contains(figure)) {
            return 2;
        }
        return List.of(3, 5, 10, 12).contains(figure) ? 1 : 3;
    }

    private int as(int figure, int kind) {
        boolean is = kind == 0 || kind == kind(figure) || kind == 1 && kind(figure) == 2;
        findIf(!is, 3);
        return 8 - Integer.bitCount(figure);
    }

    private int ask(int figure, int what) {
        int dots = 8 - Integer.bitCount(figure);
        switch (4 * what + kind(figure)) {
            case 1: trace = List.of(11, 10); return dots + figure;
            case 2: trace = List.of(12, 11, 10, 21, 20); return dots + figure + figure + 100;
            case 3: trace = List.of(13, 10); return dots * 2;
            case 5: trace = List.of(20); return figure;
            case 6: trace = List.of(21, 20); return figure + 100;
            default: trace = List.of(22, 20, 13, 10); return figure + dots * 2;
        }
    }

    private int count(int what) {
        return switch (what) {
            case 0 -> (int) Arrays.stream(sheets).filter(sheet -> sheet != null).count();
            case 1 -> rules.size();
            case 2 -> book.size();
            case 3 -> with(book, 0) + with(book, 1);
            case 4 -> with(book, 1);
            case 5 -> tape.length();
            case 6 -> code;
            default -> BAD;
        };
    }
}
