import java.util.ArrayList;
import java.util.Arrays;
import java.util.List;
import java.util.function.Consumer;

/** The order of refusals and findings, and that they change nothing (the beginning of the Terms). */
final class RefusalEdges {
    private static final int LEAST = Integer.MIN_VALUE, MOST = Integer.MAX_VALUE;
    private static final String FULL_TEXT = "if fig 1 at 0 and fig 2 at 1 and even 2 and even 3 say 11;"
        + "if even 1 say 1;".repeat(14);

    /** One call on an object. */
    private interface Call {
        int on(SandDots x);
    }

    private record Refused(String name, int answer, Call call) { }

    static void all(Sentences s) {
        fromZeroOn(s);
        firstThatFits(s);
        firstInTime(s);
        findings(s);
        s.term("What is refused, or found, changes nothing but status().");
        for (Refused one : refusedByAny()) {
            changesNothing(s, "a new object", x -> { }, one);
            changesNothing(s, "an object with some of all", RefusalEdges::fillSome, one);
            changesNothing(s, "a full object", RefusalEdges::fillAll, one);
        }
        for (Refused one : refusedByNew()) {
            changesNothing(s, "a new object", x -> { }, one);
        }
        for (Refused one : refusedBySome()) {
            changesNothing(s, "an object with some of all", RefusalEdges::fillSome, one);
        }
        for (Refused one : refusedByFull()) {
            changesNothing(s, "a full object", RefusalEdges::fillAll, one);
        }
    }

    private static void fromZeroOn(Sentences s) {
        s.term("Numbers go from 0 on.");
        SandDots x = new SandDots();
        s.due("sheet 0", x.sheet(0, 0, 16), 16);
        s.due("no sheet -1", x.sheet(-1, 0, 16), SandDots.BAD);
        s.due("item 0", x.set(0, 0, 1), 1);
        s.due("no item -1", x.set(0, -1, 1), Checks.PLACE);
        x.cast(0, 0);
        s.due("place 0", x.at(0), 1);
        s.due("no place -1", x.at(-1), SandDots.BAD);
        s.due("row 0", x.as(1, 0), 7);
        s.due("figure 0", x.seen(0), 9);
        s.due("no figure -1", x.seen(-1), SandDots.BAD);
        Checks.read(x, "if fig 1 at 0 say 0;");
        s.due("rule 0", x.said(1), 0);
        s.due("no rule -1", x.holds(-1), SandDots.BAD);
        x.ask(1, 0);
        s.due("number 0 of THE TRACE", x.trace(0), 13);
        s.due("byte 0 of the tape", Checks.read(x, "?"), -1000100);
    }

    private static void firstThatFits(Sentences s) {
        s.term("Refusals are answers, the first of these that fits: BAD (a number is not as told; "
            + "there is no such thing), STATE (as told), FULL, then FINDINGS,");
        SandDots x = new SandDots();
        fillAll(x);
        s.due("BAD, then FULL: feed", x.feed(0, 9), SandDots.BAD);
        s.due("FULL: feed", x.feed(0, 1), SandDots.FULL);
        s.due("BAD, then FULL: record", x.record(3), SandDots.BAD);
        s.due("FULL: record", x.record(2), SandDots.FULL);
        s.due("BAD, then SIZE", x.sheet(0, 3, -1), SandDots.BAD);
        s.due("BAD, then PLACE", x.drawing(0, -1, 5), SandDots.BAD);
        s.due("BAD, then STORE", x.copy(0, 0, 8, 0, 0), SandDots.BAD);
        s.due("BAD, then KIND", x.as(16, 3), SandDots.BAD);
        s.due("BAD, then KIND", x.as(0, 4), SandDots.BAD);
        SandDots y = new SandDots();
        s.due("BAD, then NULL", y.set(8, -1, 0), SandDots.BAD);
        s.due("BAD, then NULL: copy", y.copy(0, 0, 8, 0, 0), SandDots.BAD);
        s.due("BAD, then NULL: drawing", y.drawing(0, 0, -1), SandDots.BAD);
        s.due("there is no such thing", y.holds(0), SandDots.BAD);
        s.due("STATE is another answer than BAD and FULL", SandDots.STATE, -1000002);
    }

    private static void firstInTime(Sentences s) {
        s.term("of several the first in time:");
        SandDots x = new SandDots();
        s.due("NULL, then PLACE: set", x.set(0, -1, 0), Checks.NULL);
        s.due("NULL, then PLACE: cast", x.cast(0, -1), Checks.NULL);
        s.due("NULL, then PLACE: drawing", x.drawing(0, -1, 0), Checks.NULL);
        s.due("NULL, then PLACE: copy", x.copy(0, -1, 0, 0, 0), Checks.NULL);
        x.sheet(0, 0, 16);
        x.sheet(1, 1, 16);
        s.due("STORE, then PLACE: copy", x.copy(0, -1, 1, 0, 0), Checks.STORE);
        x.set(0, 0, -2);
        s.due("PLACE, then BAD items: cast", x.cast(0, 1), Checks.PLACE);
        s.due("PLACE, then BAD items: drawing", x.drawing(0, 1, 0), Checks.PLACE);
        s.due("BAD items: cast", x.cast(0, 0), SandDots.BAD);
        s.due("BAD items: drawing", x.drawing(0, 0, 0), SandDots.BAD);
    }

    private static void findings(Sentences s) {
        s.term("-1000010 less 1 NULL (a SHEET that is missing), 2 PLACE (no such place of a SHEET), "
            + "3 KIND (a FIGURE that is not that), 4 SIZE (fewer than none), 5 STORE (SHEETS of two LANES).");
        SandDots x = new SandDots();
        s.due("NULL", x.drop(7), -1000011);
        x.sheet(7, 0, 60);
        x.sheet(6, 2, 60);
        s.due("PLACE", x.set(7, 60, 0), -1000012);
        s.due("KIND", x.as(15, 3), -1000013);
        s.due("SIZE", x.sheet(7, 0, -1), -1000014);
        s.due("STORE", x.copy(6, 0, 7, 0, 1), -1000015);
    }

    /** SHEETS 0 to 4 of which 3 is empty and 4 has items that are no figures, and some of all else. */
    private static void fillSome(SandDots x) {
        Checks.fill(x, 0, 0, 1, 4, 3, 2, 1, 10, 6, 1, 0, 7, 3, 12, 1, 4, 13, 9, 13, 5);
        Checks.fill(x, 1, 1, 3, 1, 4, 1, 5, 9, 2, 6, 5, 3, 5, 8, 9, 7, 9, 3);
        Checks.fill(x, 2, 2, 0, 1, 2, 3, 4, 5, 6, 7, 8, 9, 10, 11, 12, 13, 14, -1);
        x.sheet(3, 0, 0);
        Checks.fill(x, 4, 0, 16, 0, 0, 0, 0, 0, 0, 0, 0, 0, 0, 0, 0, 0, 0, 0, -2);
        Checks.read(x, "if fig 4 at 0 and even 9 say 0;if same 13 15 say 77;if pass 2 say 9999;");
        Checks.read(x, "if even 16 say 1;");
        for (int k = 0; k < 9; k++) {
            x.chart(k * 582 + k % 3);
            x.record(k % 3);
        }
        x.chart(4660);
        Checks.feedText(x, "if even 9 say 12");
        x.ask(6, 0);
        x.copy(0, 0, 1, 0, 1);
    }

    /** All there can be of everything; SHEET 7 too, so that items are read over it. */
    private static void fillAll(SandDots x) {
        for (int sheet = 0; sheet <= 7; sheet++) {
            x.sheet(sheet, sheet % 3, 60);
            x.set(sheet, 0, 9);
            x.set(sheet, 59, 15 - sheet);
        }
        Checks.read(x, FULL_TEXT);
        Checks.read(x, "if if");
        for (int k = 0; k < 100; k++) {
            if (k % 10 == 0) {
                x.chart(k * 600 + k / 20);
            }
            x.record(k * k % 3);
        }
        x.chart(65535);
        Checks.feedText(x, " ".repeat(384) + "if even 9 say 1;");
        x.ask(1, 1);
        x.as(1, 1);
    }

    private static void refuse(List<Refused> to, int answer, String name, Call call) {
        to.add(new Refused(name, answer, call));
    }

    private static List<Refused> refusedByAny() {
        List<Refused> all = new ArrayList<>();
        for (int n : new int[] {-1, 8, LEAST, MOST}) {
            refuse(all, SandDots.BAD, "sheet(" + n + ", 0, 5)", x -> x.sheet(n, 0, 5));
            refuse(all, SandDots.BAD, "set(" + n + ", 0, 5)", x -> x.set(n, 0, 5));
            refuse(all, SandDots.BAD, "copy(" + n + ", 0, 1, 0, 1)", x -> x.copy(n, 0, 1, 0, 1));
            refuse(all, SandDots.BAD, "copy(1, 0, " + n + ", 0, 1)", x -> x.copy(1, 0, n, 0, 1));
            refuse(all, SandDots.BAD, "drop(" + n + ")", x -> x.drop(n));
            refuse(all, SandDots.BAD, "cast(" + n + ", 0)", x -> x.cast(n, 0));
            refuse(all, SandDots.BAD, "drawing(" + n + ", 0, 0)", x -> x.drawing(n, 0, 0));
            refuse(all, SandDots.BAD, "drawing(0, 0, " + n + ")", x -> x.drawing(0, 0, n));
            refuse(all, SandDots.BAD, "sheet(0, " + n + ", 5)", x -> x.sheet(0, n, 5));
            refuse(all, SandDots.BAD, "as(0, " + n + ")", x -> x.as(0, n));
            refuse(all, SandDots.BAD, "said(" + n + ")", x -> x.said(n));
            refuse(all, SandDots.BAD, "record(" + n + ")", x -> x.record(n));
            refuse(all, SandDots.BAD, "worth(0, " + n + ")", x -> x.worth(0, n));
            refuse(all, SandDots.BAD, "ask(0, " + n + ")", x -> x.ask(0, n));
            refuse(all, SandDots.BAD, "count(" + n + ")", x -> x.count(n));
        }
        for (int n : new int[] {-1, 16, LEAST, MOST}) {
            refuse(all, SandDots.BAD, "at(" + n + ")", x -> x.at(n));
            refuse(all, SandDots.BAD, "add(" + n + ", 0)", x -> x.add(n, 0));
            refuse(all, SandDots.BAD, "add(0, " + n + ")", x -> x.add(0, n));
            refuse(all, SandDots.BAD, "seen(" + n + ")", x -> x.seen(n));
            refuse(all, SandDots.BAD, "kind(" + n + ")", x -> x.kind(n));
            refuse(all, SandDots.BAD, "as(" + n + ", 0)", x -> x.as(n, 0));
            refuse(all, SandDots.BAD, "ask(" + n + ", 1)", x -> x.ask(n, 1));
            refuse(all, SandDots.BAD, "holds(" + n + ")", x -> x.holds(n));
            refuse(all, SandDots.BAD, "worth(" + n + ", 0)", x -> x.worth(n, 0));
        }
        for (int n : new int[] {-1, 65536, LEAST, MOST}) {
            refuse(all, SandDots.BAD, "chart(" + n + ")", x -> x.chart(n));
        }
        for (int n : new int[] {-1, 0, 9, LEAST, MOST}) {
            refuse(all, SandDots.BAD, "feed(-1, " + n + ")", x -> x.feed(-1, n));
        }
        refuse(all, SandDots.BAD, "sheet(0, 0, 61)", x -> x.sheet(0, 0, 61));
        refuse(all, SandDots.BAD, "sheet(0, 0, the most)", x -> x.sheet(0, 0, MOST));
        refuse(all, SandDots.BAD, "sheet(0, 3, 5)", x -> x.sheet(0, 3, 5));
        refuse(all, SandDots.BAD, "as(0, 4)", x -> x.as(0, 4));
        refuse(all, SandDots.BAD, "said(2)", x -> x.said(2));
        refuse(all, SandDots.BAD, "record(3)", x -> x.record(3));
        refuse(all, SandDots.BAD, "worth(0, 4)", x -> x.worth(0, 4));
        refuse(all, SandDots.BAD, "ask(0, 2)", x -> x.ask(0, 2));
        refuse(all, SandDots.BAD, "count(7)", x -> x.count(7));
        refuse(all, SandDots.BAD, "drawing(0, 0, 5)", x -> x.drawing(0, 0, 5));
        refuse(all, Checks.SIZE, "sheet(0, 1, -1)", x -> x.sheet(0, 1, -1));
        refuse(all, Checks.SIZE, "sheet(6, 2, the least)", x -> x.sheet(6, 2, LEAST));
        refuse(all, Checks.KIND, "as(0, 3)", x -> x.as(0, 3));
        refuse(all, Checks.KIND, "as(3, 2)", x -> x.as(3, 2));
        refuse(all, Checks.KIND, "as(14, 1)", x -> x.as(14, 1));
        return all;
    }

    private static List<Refused> refusedByNew() {
        List<Refused> all = new ArrayList<>();
        for (int sheet = 0; sheet <= 7; sheet += 7) {
            int n = sheet;
            refuse(all, Checks.NULL, "set(" + n + ", 0, 5)", x -> x.set(n, 0, 5));
            refuse(all, Checks.NULL, "copy(" + n + ", 0, 1, 0, 0)", x -> x.copy(n, 0, 1, 0, 0));
            refuse(all, Checks.NULL, "drop(" + n + ")", x -> x.drop(n));
            refuse(all, Checks.NULL, "cast(" + n + ", 0)", x -> x.cast(n, 0));
            refuse(all, Checks.NULL, "drawing(" + n + ", 0, 0)", x -> x.drawing(n, 0, 0));
        }
        refuse(all, SandDots.BAD, "holds(0)", x -> x.holds(0));
        refuse(all, SandDots.BAD, "worth(0, 0)", x -> x.worth(0, 0));
        return all;
    }

    private static List<Refused> refusedBySome() {
        List<Refused> all = new ArrayList<>();
        refuse(all, SandDots.BAD, "holds(3)", x -> x.holds(3));
        refuse(all, SandDots.BAD, "worth(3, 0)", x -> x.worth(3, 0));
        refuse(all, Checks.NULL, "set(5, 0, 1)", x -> x.set(5, 0, 1));
        refuse(all, Checks.NULL, "copy(0, 0, 5, 0, 1)", x -> x.copy(0, 0, 5, 0, 1));
        refuse(all, Checks.NULL, "copy(5, 0, 0, 0, 1)", x -> x.copy(5, 0, 0, 0, 1));
        refuse(all, Checks.NULL, "drop(5)", x -> x.drop(5));
        refuse(all, Checks.NULL, "cast(5, 0)", x -> x.cast(5, 0));
        refuse(all, Checks.NULL, "drawing(5, 0, 3)", x -> x.drawing(5, 0, 3));
        refuse(all, Checks.STORE, "copy(1, 0, 0, 0, 16)", x -> x.copy(1, 0, 0, 0, 16));
        refuse(all, Checks.STORE, "copy(2, 0, 1, 0, 0)", x -> x.copy(2, 0, 1, 0, 0));
        for (int i : new int[] {-1, 18, LEAST, MOST}) {
            refuse(all, Checks.PLACE, "set(0, " + i + ", 7)", x -> x.set(0, i, 7));
            refuse(all, Checks.PLACE, "copy(0, " + i + ", 4, 0, 1)", x -> x.copy(0, i, 4, 0, 1));
            refuse(all, Checks.PLACE, "copy(4, 0, 0, " + i + ", 1)", x -> x.copy(4, 0, 0, i, 1));
        }
        refuse(all, Checks.PLACE, "set(3, 0, 7)", x -> x.set(3, 0, 7));
        for (int n : new int[] {-1, 18, 60, 61, LEAST, MOST}) {
            refuse(all, Checks.PLACE, "copy(0, 0, 4, 0, " + n + ")", x -> x.copy(0, 0, 4, 0, n));
            refuse(all, Checks.PLACE, "copy(0, 1, 0, 2, " + n + ")", x -> x.copy(0, 1, 0, 2, n));
        }
        for (int i : new int[] {-1, 3, LEAST, MOST, MOST - 15}) {
            refuse(all, Checks.PLACE, "cast(0, " + i + ")", x -> x.cast(0, i));
            refuse(all, Checks.PLACE, "drawing(0, " + i + ", 0)", x -> x.drawing(0, i, 0));
        }
        refuse(all, Checks.PLACE, "cast(3, 0)", x -> x.cast(3, 0));
        refuse(all, SandDots.BAD, "cast(2, 0)", x -> x.cast(2, 0));
        refuse(all, SandDots.BAD, "cast(4, 1)", x -> x.cast(4, 1));
        refuse(all, SandDots.BAD, "drawing(4, 0, 0)", x -> x.drawing(4, 0, 0));
        refuse(all, SandDots.BAD, "drawing(4, 1, 4)", x -> x.drawing(4, 1, 4));
        return all;
    }

    private static List<Refused> refusedByFull() {
        List<Refused> all = new ArrayList<>();
        for (int n = 1; n <= 8; n++) {
            int bytes = n;
            refuse(all, SandDots.FULL, "feed(-1, " + n + ")", x -> x.feed(-1, bytes));
        }
        for (int came = 0; came <= 2; came++) {
            int end = came;
            refuse(all, SandDots.FULL, "record(" + came + ")", x -> x.record(end));
        }
        refuse(all, SandDots.BAD, "holds(15)", x -> x.holds(15));
        refuse(all, SandDots.BAD, "worth(15, 3)", x -> x.worth(15, 3));
        refuse(all, Checks.PLACE, "set(0, 60, 1)", x -> x.set(0, 60, 1));
        refuse(all, Checks.PLACE, "cast(0, 45)", x -> x.cast(0, 45));
        refuse(all, Checks.PLACE, "drawing(0, 45, 0)", x -> x.drawing(0, 45, 0));
        refuse(all, Checks.PLACE, "copy(0, 1, 3, 0, 60)", x -> x.copy(0, 1, 3, 0, 60));
        refuse(all, Checks.PLACE, "copy(0, 0, 3, 1, 60)", x -> x.copy(0, 0, 3, 1, 60));
        refuse(all, Checks.STORE, "copy(0, 0, 1, 0, 60)", x -> x.copy(0, 0, 1, 0, 60));
        return all;
    }

    /** Fills a new object and makes the refused call, or not. */
    private static SandDots made(Consumer<SandDots> filling, Refused one, boolean refused) {
        SandDots x = new SandDots();
        filling.accept(x);
        if (refused) {
            one.call.on(x);
        }
        return x;
    }

    // Two objects are filled alike; the call is made on one of them, and both are asked for all they have.
    private static void changesNothing(Sentences s, String name, Consumer<SandDots> filling, Refused one) {
        String what = one.name + " of " + name;
        SandDots x = made(filling, one, false);
        int status = x.status();
        s.due(what, one.call.on(x), one.answer);
        s.due("status() behind " + what, x.status(), one.answer <= -1000010 ? -1000010 - one.answer : status);
        s.due(what + ", once more", one.call.on(x), one.answer);
        same(s, "counts and answers behind " + what, told(made(filling, one, true)), told(made(filling, one, false)));
        same(s, "the tape behind " + what, tape(made(filling, one, true)), tape(made(filling, one, false)));
        for (int sheet = 0; sheet <= 6; sheet++) {
            same(s, "sheet " + sheet + " behind " + what, items(made(filling, one, true), sheet),
                items(made(filling, one, false), sheet));
        }
        s.due("the size of sheet 7 behind " + what, made(filling, one, true).drop(7), made(filling, one, false).drop(7));
    }

    private static void same(Sentences s, String what, int[] got, int[] due) {
        s.isTrue(what + ": " + Arrays.toString(got) + " and not " + Arrays.toString(due), Arrays.equals(got, due));
    }

    /** All that can be told without a sheet. */
    private static int[] told(SandDots x) {
        List<Integer> told = new ArrayList<>(List.of(x.point(), x.fault(), x.said(0), x.said(1), x.best()));
        for (int what = 0; what <= 6; what++) {
            told.add(x.count(what));
        }
        for (int k = 0; k <= 15; k++) {
            told.addAll(List.of(x.at(k), x.trace(k), x.holds(k), x.worth(k, 0), x.worth(k, 1), x.worth(k, 3)));
        }
        return told.stream().mapToInt(one -> one).toArray();
    }

    /** What becomes of the tape, as it is and with an end of a rule behind it. */
    private static int[] tape(SandDots x) {
        int fed = x.feed(0x3b, 1);
        return new int[] {fed, x.rules(), x.count(1), x.said(0), x.said(1), x.fault()};
    }

    private static int[] items(SandDots x, int sheet) {
        int lane = 0;
        while (lane < 2 && x.sheet(7, lane, 0) == 0 && x.copy(sheet, 0, 7, 0, 0) == Checks.STORE) {
            lane++;
        }
        int[] items = Items.of(x, sheet, lane, 60);
        return new int[] {lane, Arrays.hashCode(items), x.drop(sheet)};
    }
}
