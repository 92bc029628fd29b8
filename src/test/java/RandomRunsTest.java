import java.nio.charset.StandardCharsets;
import java.util.Arrays;
import java.util.Random;

/** All promises: runs of 512 calls, drawn from fixed seeds, each answer held against PlainSandDots. */
public final class RandomRunsTest {
    private static final int RUNS = 400, CALLS = 512;
    private static final int[] ODD_NUMBERS = {-1, -2, 16, 17, 60, 61, 100, 127, 128, 255, 256, 40000, 65535, 65536,
        Integer.MAX_VALUE, Integer.MIN_VALUE, Integer.MAX_VALUE - 15, Integer.MIN_VALUE + 15};
    private static final String[] WORDS = {"if", "and", "say", "fig", "at", "same", "pass", "even", ";", "odd", "iff",
        "evenly", "evenodd", "0", "1", "2", "11", "12", "15", "16", "0003", "9999", "12345", "?", "A", "\u00e9", "\n"};

    private final Checks checks;
    private final Random random;
    private final String run;
    private final SandDots x = new SandDots();
    private final PlainSandDots plain = new PlainSandDots();
    private int calls = 0;
    private int looks = 0;

    private RandomRunsTest(Checks checks, int seed) {
        this.checks = checks;
        this.random = new Random(seed);
        this.run = "run " + seed;
    }

    public static void main(String[] args) {
        Checks checks = new Checks();
        for (int seed = 0; seed < RUNS; seed++) {
            new RandomRunsTest(checks, seed).goOn();
        }
        checks.end();
    }

    private void goOn() {
        while (calls < CALLS) {
            switch (random.nextInt(12)) {
                case 0, 1: someSheetCalls(); break;
                case 2: fillSixteen(); break;
                case 3, 4: feedRules(); break;
                case 5, 6: someCases(); break;
                case 7: sixteenFromAChart(); break;
                default: anyCall();
            }
        }
    }

    private int pick(int bound) {
        return random.nextInt(12) == 0 ? ODD_NUMBERS[random.nextInt(ODD_NUMBERS.length)] : random.nextInt(bound);
    }

    private int sheetNumber() {
        return random.nextInt(3) == 0 ? pick(8) : random.nextInt(3);
    }

    private void call(String name, long... n) {
        if (calls == CALLS) {
            return;
        }
        calls++;
        long got = answer(name, n);
        int due = plain.call(name, n);
        checks.due(run + ", call " + calls + ": " + name + Arrays.toString(n), got, due);
    }

    private long answer(String name, long... n) {
        int[] i = Arrays.stream(n).mapToInt(one -> (int) one).toArray();
        return switch (name) {
            case "sheet" -> x.sheet(i[0], i[1], i[2]);
            case "set" -> x.set(i[0], i[1], i[2]);
            case "copy" -> x.copy(i[0], i[1], i[2], i[3], i[4]);
            case "drop" -> x.drop(i[0]);
            case "cast" -> x.cast(i[0], i[1]);
            case "chart" -> x.chart(i[0]);
            case "at" -> x.at(i[0]);
            case "add" -> x.add(i[0], i[1]);
            case "seen" -> x.seen(i[0]);
            case "point" -> x.point();
            case "drawing" -> x.drawing(i[0], i[1], i[2]);
            case "feed" -> x.feed(n[0], i[1]);
            case "rules" -> x.rules();
            case "fault" -> x.fault();
            case "said" -> x.said(i[0]);
            case "holds" -> x.holds(i[0]);
            case "record" -> x.record(i[0]);
            case "worth" -> x.worth(i[0], i[1]);
            case "best" -> x.best();
            case "kind" -> x.kind(i[0]);
            case "as" -> x.as(i[0], i[1]);
            case "ask" -> x.ask(i[0], i[1]);
            case "trace" -> x.trace(i[0]);
            case "count" -> x.count(i[0]);
            case "status" -> x.status();
            default -> throw new IllegalArgumentException(name);
        };
    }

    private void someSheetCalls() {
        switch (random.nextInt(7)) {
            case 0: call("sheet", sheetNumber(), pick(3), random.nextBoolean() ? 16 + random.nextInt(20) : pick(61)); break;
            case 1: call("drop", sheetNumber()); break;
            case 2: call("copy", sheetNumber(), pick(8), sheetNumber(), pick(8), pick(30)); break;
            case 3: call("cast", sheetNumber(), pick(4)); break;
            default: call("set", sheetNumber(), pick(30), random.nextInt(4) == 0 ? random.nextInt() : pick(300));
        }
        call("status");
    }

    private void fillSixteen() {
        int sheet = random.nextInt(3);
        call("sheet", sheet, random.nextInt(3), 16 + random.nextInt(3));
        for (int i = 0; i < 16; i++) {
            call("set", sheet, i, random.nextInt(100));
        }
        call("cast", sheet, 0);
        call("cast", sheet, random.nextInt(3));
        call("point");
    }

    private void sixteenFromAChart() {
        int sheet = random.nextInt(3);
        int[] chart = PlainCharts.ofCode(random.nextInt(65536));
        call("sheet", sheet, random.nextInt(3), 16);
        for (int i = 0; i < 16; i++) {
            int smudged = random.nextInt(10) == 0 ? random.nextInt(16) : chart[i];
            call("set", sheet, i, random.nextInt(3) == 0 ? -1 : smudged);
        }
        lookAt(sheet, 0, random.nextInt(5));
        call("status");
    }

    // The plain version takes its time over a drawing, so a run has few.
    private void lookAt(int sheet, int i, int what) {
        if (looks < 4) {
            looks++;
            call("drawing", sheet, i, what);
        }
    }

    private void feedRules() {
        byte[] text = someText().getBytes(StandardCharsets.ISO_8859_1);
        for (int from = 0; from < text.length;) {
            int n = Math.min(text.length - from, random.nextInt(5) == 0 ? 1 + random.nextInt(8) : 8);
            long rest = n < 8 ? random.nextLong() << 8 * n : 0;
            call("feed", rest | Checks.word(text, from, n), n);
            from += n;
        }
        call("rules");
        call("fault");
        call("count", 1);
        call("count", 5);
    }

    private String someText() {
        StringBuilder text = new StringBuilder();
        int rules = random.nextInt(20) == 0 ? 16 : random.nextInt(5);
        for (int rule = 0; rule < rules; rule++) {
            text.append("if ").append(someTest());
            int more = random.nextInt(8) == 0 ? 4 : random.nextInt(3);
            for (int test = 0; test < more; test++) {
                text.append(" and ").append(someTest());
            }
            text.append(" say ").append(random.nextInt(10000)).append(random.nextBoolean() ? ";" : " ; \n");
        }
        if (random.nextInt(3) == 0 && text.length() > 0) {
            spoil(text);
        }
        return text.toString();
    }

    private String someTest() {
        int place = random.nextInt(60) == 0 ? 16 : random.nextInt(16);
        return switch (random.nextInt(4)) {
            case 0 -> "fig " + random.nextInt(16) + " at " + place;
            case 1 -> "same " + random.nextInt(16) + " " + place;
            case 2 -> "pass " + (random.nextInt(10) == 0 ? random.nextInt(13) : 1 + random.nextInt(3));
            default -> "even " + place;
        };
    }

    private void spoil(StringBuilder text) {
        int from = random.nextInt(text.length());
        int to = Math.min(text.length(), from + random.nextInt(4));
        String word = WORDS[random.nextInt(WORDS.length)];
        text.replace(from, to, random.nextBoolean() ? " " + word + " " : word);
    }

    private void someCases() {
        for (int k = random.nextInt(6); k >= 0; k--) {
            call("chart", random.nextBoolean() ? random.nextInt(65536) : random.nextInt(4) * 4369 + random.nextInt(4));
            call("record", pick(3));
            call("said", pick(2));
        }
        call("worth", pick(3), pick(4));
        call("best");
    }

    private void anyCall() {
        switch (random.nextInt(20)) {
            case 0: call("chart", pick(65536)); break;
            case 1: call("at", pick(16)); break;
            case 2: call("add", pick(16), pick(16)); break;
            case 3: call("seen", pick(16)); break;
            case 4: call("point"); break;
            case 5: lookAt(sheetNumber(), pick(3), pick(5)); break;
            case 6: call("said", pick(2)); break;
            case 7: call("holds", pick(4)); break;
            case 8: call("worth", pick(4), pick(4)); break;
            case 9: call("best"); break;
            case 10: call("kind", pick(16)); break;
            case 11: call("as", pick(16), pick(4)); break;
            case 12: call("ask", pick(16), pick(2)); break;
            case 13, 14: call("trace", pick(6)); break;
            case 15, 16: call("count", pick(7)); break;
            case 17: call("feed", random.nextLong(), pick(9)); break;
            case 18: call("fault"); break;
            default: call("status");
        }
    }
}
