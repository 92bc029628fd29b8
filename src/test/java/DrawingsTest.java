import java.util.Arrays;
import java.util.Random;

/** Promise 12. */
public final class DrawingsTest {
    private static final Checks checks = new Checks();

    public static void main(String[] args) {
        toldDrawings();
        drawnCharts();
        smudgedCharts();
        wildDrawings();
        tornDrawings();
        withinALongerSheet();
        refusals();
        checks.end();
    }

    private static void toldDrawings() {
        int[] torn = new int[16];
        Arrays.fill(torn, -1);
        told("all torn", torn, 65536, 0, 0, 0, SandDots.NONE);
        torn[14] = 1;
        told("an odd judge", torn, 0, SandDots.NONE, 1, 0, 14);
        torn[14] = 3;
        torn[15] = 5;
        told("judge and end", torn, 512, 86, 0, 86, SandDots.NONE);
        int[] chart = PlainCharts.ofCode(4660);
        told("a chart", chart, 1, 4660, 0, 4660, SandDots.NONE);
        chart[15] ^= 8;
        told("a chart with a wrong end", chart, 0, SandDots.NONE, 1, 4660, 15);
        heldAgainst("all single", filled(15));
    }

    private static int[] filled(int figure) {
        int[] drawing = new int[16];
        Arrays.fill(drawing, figure);
        return drawing;
    }

    private static void told(String name, int[] drawing, int... answers) {
        SandDots x = new SandDots();
        Checks.fill(x, 0, 0, drawing);
        for (int what = 0; what <= 4; what++) {
            checks.due("12: " + name + ", what " + what, x.drawing(0, 0, what), answers[what]);
        }
    }

    private static void drawnCharts() {
        Random random = new Random(1);
        for (int k = 0; k < 6; k++) {
            heldAgainst("a chart", PlainCharts.ofCode(random.nextInt(65536)));
        }
    }

    private static void smudgedCharts() {
        Random random = new Random(2);
        for (int k = 0; k < 20; k++) {
            int[] drawing = PlainCharts.ofCode(random.nextInt(65536));
            for (int smudges = 1 + k / 2; smudges > 0; smudges--) {
                drawing[random.nextInt(16)] ^= 1 << random.nextInt(4);
            }
            heldAgainst("a smudged chart", drawing);
        }
    }

    private static void wildDrawings() {
        Random random = new Random(3);
        for (int k = 0; k < 10; k++) {
            int[] drawing = new int[16];
            for (int place = 0; place < 16; place++) {
                drawing[place] = random.nextInt(16);
            }
            heldAgainst("a wild drawing", drawing);
        }
    }

    private static void tornDrawings() {
        Random random = new Random(4);
        for (int k = 0; k < 60; k++) {
            int[] drawing = PlainCharts.ofCode(random.nextInt(65536));
            for (int place = 0; place < 16; place++) {
                if (random.nextInt(4) < 1 + k % 3) {
                    drawing[place] = -1;
                } else if (random.nextInt(16) == 0) {
                    drawing[place] = random.nextInt(16);
                }
            }
            heldAgainst("a torn drawing", drawing);
        }
    }

    private static void heldAgainst(String name, int[] drawing) {
        told(name + " " + Arrays.toString(drawing), drawing, PlainCharts.answersOf(drawing));
    }

    private static void withinALongerSheet() {
        SandDots x = new SandDots();
        x.sheet(7, 1, 60);
        int[] chart = PlainCharts.ofCode(40000);
        for (int place = 0; place < 16; place++) {
            x.set(7, 44 + place, chart[place]);
        }
        x.set(7, 43, 16);
        checks.due("12: the last 16 items", x.drawing(7, 44, 1), 40000);
        checks.due("12: THE CHART is as it was", x.count(6), 0);
        checks.due("12: an item above 15 is the first", x.drawing(7, 43, 1), SandDots.BAD);
        x.set(7, 59, 0);
        checks.due("12: a new look at changed items", x.drawing(7, 44, 1), SandDots.NONE);
        x.set(7, 59, -1);
        checks.due("12: torn is not double", x.drawing(7, 44, 1), 40000);
    }

    private static void refusals() {
        SandDots x = new SandDots();
        checks.due("12: no such sheet, above", x.drawing(8, 0, 0), SandDots.BAD);
        checks.due("12: no such sheet, below", x.drawing(-1, 0, 0), SandDots.BAD);
        checks.due("12: what -1", x.drawing(0, 0, -1), SandDots.BAD);
        checks.due("12: what 5", x.drawing(0, 0, 5), SandDots.BAD);
        checks.due("12: a missing sheet", x.drawing(0, 0, 0), Checks.NULL);
        x.sheet(0, 2, 17);
        checks.due("12: beyond the end", x.drawing(0, 2, 0), Checks.PLACE);
        checks.due("12: below 0", x.drawing(0, -1, 0), Checks.PLACE);
        checks.due("12: the greatest place", x.drawing(0, Integer.MAX_VALUE, 0), Checks.PLACE);
        x.set(0, 16, 16);
        checks.due("12: PLACE goes ahead of the items", x.drawing(0, 2, 0), Checks.PLACE);
        checks.due("12: an item above 15", x.drawing(0, 1, 0), SandDots.BAD);
        x.set(0, 16, -2);
        checks.due("12: an item below -1", x.drawing(0, 1, 0), SandDots.BAD);
        checks.due("12: that item is not of this drawing", x.drawing(0, 0, 1), 0);
    }
}
