/** Promises 1 to 5 and 26. */
public final class SheetsTest {
    private static final Checks checks = new Checks();

    public static void main(String[] args) {
        newObject();
        sheet();
        sheetInPlaceOfAnother();
        set();
        copy();
        copyOverItself();
        copyRefusals();
        drop();
        status();
        checks.end();
    }

    private static void newObject() {
        SandDots x = new SandDots();
        for (int what = 0; what <= 6; what++) {
            checks.due("1: count(" + what + ") of a new object", x.count(what), 0);
        }
        for (int place = 0; place < 16; place++) {
            checks.due("1: at(" + place + ") of a new object", x.at(place), 0);
        }
        checks.due("1: status() of a new object", x.status(), 0);
        checks.due("1: fault() of a new object", x.fault(), 0);
        checks.due("1: trace(0) of a new object", x.trace(0), SandDots.NONE);
        checks.due("1: said(0) of a new object", x.said(0), SandDots.NONE);
        checks.due("1: best() of a new object", x.best(), SandDots.NONE);
        for (int sheet = 0; sheet < 8; sheet++) {
            checks.due("1: drop(" + sheet + ") of a new object", x.drop(sheet), Checks.NULL);
        }
    }

    private static void sheet() {
        SandDots x = new SandDots();
        for (int lane = 0; lane <= 2; lane++) {
            checks.due("2: sheet of lane " + lane, x.sheet(lane, lane, 60), 60);
        }
        checks.due("2: the last sheet, empty", x.sheet(7, 0, 0), 0);
        checks.due("2: an empty sheet is there", x.count(0), 4);
        checks.due("2: sheet -1", x.sheet(-1, 0, 1), SandDots.BAD);
        checks.due("2: sheet 8", x.sheet(8, 0, 1), SandDots.BAD);
        checks.due("2: lane -1", x.sheet(0, -1, 1), SandDots.BAD);
        checks.due("2: lane 3", x.sheet(0, 3, 1), SandDots.BAD);
        checks.due("2: 61 items", x.sheet(0, 0, 61), SandDots.BAD);
        checks.due("2: the most items", x.sheet(0, 0, Integer.MAX_VALUE), SandDots.BAD);
        checks.due("2: fewer than none", x.sheet(0, 0, -1), Checks.SIZE);
        checks.due("2: far fewer than none", x.sheet(0, 0, Integer.MIN_VALUE), Checks.SIZE);
        checks.due("2: BAD goes ahead of SIZE, sheet", x.sheet(8, 0, -1), SandDots.BAD);
        checks.due("2: BAD goes ahead of SIZE, lane", x.sheet(0, 3, -1), SandDots.BAD);
        checks.due("2: what was refused left the sheet", x.drop(0), 60);
    }

    private static void sheetInPlaceOfAnother() {
        SandDots x = new SandDots();
        Checks.fill(x, 0, 0, 1, 2, 3);
        checks.due("2: a sheet in place of another", x.sheet(0, 2, 5), 5);
        checks.due("2: still one sheet", x.count(0), 1);
        checks.due("2: the new lane", x.set(0, 4, 70000), 70000);
        Checks.fill(x, 1, 0, new int[16]);
        x.set(1, 0, 1);
        checks.due("2: a cast with one odd item", x.cast(1, 0), 1);
        x.sheet(1, 0, 16);
        checks.due("2: items are 0 at first, again", x.cast(1, 0), 0);
    }

    private static void set() {
        SandDots x = new SandDots();
        checks.due("3: no such sheet, below", x.set(-1, 0, 0), SandDots.BAD);
        checks.due("3: no such sheet, above", x.set(8, 0, 0), SandDots.BAD);
        checks.due("3: a missing sheet", x.set(0, 0, 0), Checks.NULL);
        checks.due("3: NULL goes ahead of PLACE", x.set(0, -1, 0), Checks.NULL);
        for (int lane = 0; lane <= 2; lane++) {
            x.sheet(lane, lane, 2);
        }
        int[] values = {0, 127, 128, 255, 256, 300, -1, -128, -129, 32767, 32768, 65535, 65536, -32769,
            Integer.MAX_VALUE, Integer.MIN_VALUE};
        for (int v : values) {
            checks.due("3: " + v + " in bytes", x.set(0, 1, v), (byte) v);
            checks.due("3: " + v + " in shorts", x.set(1, 1, v), (short) v);
            checks.due("3: " + v + " in ints", x.set(2, 1, v), v);
        }
        checks.due("3: the place behind the last", x.set(0, 2, 1), Checks.PLACE);
        checks.due("3: a place below 0", x.set(0, -1, 1), Checks.PLACE);
        checks.due("3: the greatest place", x.set(0, Integer.MAX_VALUE, 1), Checks.PLACE);
        x.sheet(0, 0, 0);
        checks.due("3: an empty sheet has no places", x.set(0, 0, 1), Checks.PLACE);
    }

    private static void copy() {
        SandDots x = new SandDots();
        x.sheet(0, 1, 20);
        for (int i = 0; i < 16; i++) {
            x.set(0, i + 2, i % 3);
        }
        x.sheet(1, 1, 17);
        checks.due("4: copy", x.copy(0, 2, 1, 1, 16), 16);
        checks.due("4: the items came in order", x.cast(1, 1), 0b0010010010010010);
        checks.due("4: the items are still where they were", x.cast(0, 2), 0b0010010010010010);
        checks.due("4: no items, from the end to the end", x.copy(0, 20, 1, 17, 0), 0);
        checks.due("4: all items of a sheet to itself", x.copy(1, 0, 1, 0, 17), 17);
        checks.due("4: they are as they were", x.cast(1, 1), 0b0010010010010010);
    }

    private static void copyOverItself() {
        for (int to = 0; to <= 2; to++) {
            SandDots x = new SandDots();
            x.sheet(0, 0, 18);
            x.set(0, 1, 1);
            x.set(0, 4, 1);
            checks.due("4: copy from 1 to " + to, x.copy(0, 1, 0, to, 16), 16);
            checks.due("4: as they were ahead", x.cast(0, to), 0b1001);
        }
    }

    private static void copyRefusals() {
        SandDots x = new SandDots();
        checks.due("4: both missing", x.copy(0, 0, 1, 0, 0), Checks.NULL);
        x.sheet(0, 0, 5);
        checks.due("4: to a missing one", x.copy(0, 0, 1, 0, 0), Checks.NULL);
        checks.due("4: from a missing one", x.copy(1, 0, 0, 0, 0), Checks.NULL);
        checks.due("4: NULL goes ahead of PLACE", x.copy(0, -1, 1, 0, 0), Checks.NULL);
        checks.due("4: no such sheet a", x.copy(8, 0, 0, 0, 0), SandDots.BAD);
        checks.due("4: no such sheet b", x.copy(0, 0, 8, 0, 0), SandDots.BAD);
        checks.due("4: a below 0", x.copy(-1, 0, 0, 0, 0), SandDots.BAD);
        checks.due("4: b below 0", x.copy(0, 0, -1, 0, 0), SandDots.BAD);
        checks.due("4: BAD goes ahead of NULL", x.copy(1, 0, 8, 0, 0), SandDots.BAD);
        x.sheet(1, 1, 5);
        checks.due("4: two lanes", x.copy(0, 0, 1, 0, 1), Checks.STORE);
        checks.due("4: two lanes, no items", x.copy(0, 0, 1, 0, 0), Checks.STORE);
        checks.due("4: STORE goes ahead of PLACE", x.copy(0, -1, 1, 0, 9), Checks.STORE);
        x.sheet(1, 0, 4);
        checks.due("4: i below 0", x.copy(0, -1, 1, 0, 1), Checks.PLACE);
        checks.due("4: j below 0", x.copy(0, 0, 1, -1, 1), Checks.PLACE);
        checks.due("4: n below 0", x.copy(0, 0, 1, 0, -1), Checks.PLACE);
        checks.due("4: the least n", x.copy(0, 1, 1, 1, Integer.MIN_VALUE), Checks.PLACE);
        checks.due("4: beyond the end of a", x.copy(0, 2, 1, 0, 4), Checks.PLACE);
        checks.due("4: beyond the end of b", x.copy(0, 0, 1, 0, 5), Checks.PLACE);
        checks.due("4: up to the end of b", x.copy(0, 1, 1, 0, 4), 4);
        checks.due("4: no items beyond the end of a", x.copy(0, 6, 1, 0, 0), Checks.PLACE);
        checks.due("4: no items beyond the end of b", x.copy(0, 0, 1, 5, 0), Checks.PLACE);
        checks.due("4: the most items", x.copy(0, 1, 1, 1, Integer.MAX_VALUE), Checks.PLACE);
        checks.due("4: from the greatest place", x.copy(0, Integer.MAX_VALUE, 1, 1, 1), Checks.PLACE);
    }

    private static void drop() {
        SandDots x = new SandDots();
        x.sheet(3, 0, 7);
        x.sheet(4, 0, 0);
        checks.due("5: drop", x.drop(3), 7);
        checks.due("5: it is missing now", x.drop(3), Checks.NULL);
        checks.due("5: and cannot be set", x.set(3, 0, 0), Checks.NULL);
        checks.due("5: an empty one stays", x.count(0), 1);
        checks.due("5: drop an empty one", x.drop(4), 0);
        checks.due("5: none is left", x.count(0), 0);
        checks.due("5: no such sheet, above", x.drop(8), SandDots.BAD);
        checks.due("5: no such sheet, below", x.drop(-1), SandDots.BAD);
    }

    private static void status() {
        SandDots x = new SandDots();
        finds(x, "drop", x.drop(0), 1);
        x.drop(8);
        checks.due("26: BAD leaves it", x.status(), 1);
        checks.due("26: asked twice", x.status(), 1);
        finds(x, "sheet", x.sheet(0, 0, 16), 0);
        finds(x, "sheet of fewer than none", x.sheet(0, 0, -1), 4);
        finds(x, "set", x.set(0, 0, -1), 0);
        finds(x, "set beyond", x.set(0, 16, 0), 2);
        x.cast(0, 0);
        checks.due("26: a cast of an item below 0 is BAD and leaves it", x.status(), 2);
        finds(x, "a drawing", x.drawing(0, 0, 0), 0);
        finds(x, "a drawing beyond", x.drawing(0, 1, 0), 2);
        x.drawing(0, 0, 5);
        checks.due("26: a BAD drawing leaves it", x.status(), 2);
        x.set(0, 0, 16);
        finds(x, "a cast beyond", x.cast(0, 1), 2);
        x.drawing(0, 0, 0);
        checks.due("26: a drawing of an item above 15 is BAD and leaves it", x.status(), 2);
        finds(x, "a cast", x.cast(0, 0), 0);
        x.sheet(1, 1, 16);
        finds(x, "a copy of two lanes", x.copy(0, 0, 1, 0, 1), 5);
        finds(x, "a copy", x.copy(0, 0, 0, 0, 1), 0);
        finds(x, "as", x.as(1, 1), 3);
        x.chart(5);
        x.at(16);
        x.ask(1, 0);
        x.record(0);
        x.feed(0, 1);
        x.rules();
        x.as(16, 0);
        checks.due("26: calls without a sheet, and BAD ones, leave it", x.status(), 3);
        finds(x, "as", x.as(1, 3), 0);
        finds(x, "drop of a missing one", x.drop(5), 1);
        finds(x, "drop", x.drop(0), 0);
    }

    private static void finds(SandDots x, String call, int answer, int finding) {
        checks.due("26: status() behind " + call, x.status(), finding);
        if (finding != 0) {
            checks.due("26: the answer of " + call, answer, -1000010 - finding);
        }
    }
}
