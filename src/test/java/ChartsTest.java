/** Promises 6 to 11. */
public final class ChartsTest {
    private static final Checks checks = new Checks();

    public static void main(String[] args) {
        cast();
        castRefusals();
        chart();
        at();
        everyPlaceOfEveryChart();
        add();
        seen();
        point();
        checks.end();
    }

    private static void cast() {
        SandDots x = new SandDots();
        for (int bit = 0; bit < 16; bit++) {
            x.sheet(0, 2, 18);
            x.set(0, 1 + bit, Integer.MAX_VALUE);
            x.set(0, 1 + (bit + 1) % 16, 2);
            checks.due("6: one odd number, the " + bit + "th", x.cast(0, 1), 1 << bit);
            checks.due("6: it is THE CHART", x.count(6), 1 << bit);
            checks.due("6: its mother", x.at(bit / 4), 1 << bit % 4);
        }
        Checks.fill(x, 0, 0, 1, 3, 5, 7, 9, 11, 13, 15, 17, 19, 21, 23, 25, 27, 29, 127);
        checks.due("6: all odd", x.cast(0, 0), 65535);
    }

    private static void castRefusals() {
        SandDots x = new SandDots();
        x.chart(77);
        checks.due("6: no such sheet, above", x.cast(8, 0), SandDots.BAD);
        checks.due("6: no such sheet, below", x.cast(-1, 0), SandDots.BAD);
        checks.due("6: a missing sheet", x.cast(0, 0), Checks.NULL);
        x.sheet(0, 0, 15);
        checks.due("6: too few items", x.cast(0, 0), Checks.PLACE);
        x.sheet(0, 0, 17);
        x.set(0, 16, -1);
        checks.due("6: below 0", x.cast(0, -1), Checks.PLACE);
        checks.due("6: beyond the end", x.cast(0, 2), Checks.PLACE);
        checks.due("6: the greatest place", x.cast(0, Integer.MAX_VALUE), Checks.PLACE);
        checks.due("6: PLACE goes ahead of an item below 0", x.cast(0, 2), Checks.PLACE);
        checks.due("6: the last item is below 0", x.cast(0, 1), SandDots.BAD);
        checks.due("6: refused, it changed nothing", x.count(6), 77);
        checks.due("6: that item is not of this cast", x.cast(0, 0), 0);
    }

    private static void chart() {
        SandDots x = new SandDots();
        checks.due("7: the first one was 0", x.chart(65535), 0);
        checks.due("7: the code of what was", x.chart(1), 65535);
        checks.due("7: below 0", x.chart(-1), SandDots.BAD);
        checks.due("7: above 65535", x.chart(65536), SandDots.BAD);
        checks.due("7: BAD changed nothing", x.count(6), 1);
    }

    private static void at() {
        SandDots x = new SandDots();
        x.chart(4660);
        int[] figures = {4, 3, 2, 1, 10, 6, 1, 0, 7, 3, 12, 1, 4, 13, 9, 13};
        for (int place = 0; place < 16; place++) {
            checks.due("8: at(" + place + ") of 4660", x.at(place), figures[place]);
        }
        checks.due("8: below 0", x.at(-1), SandDots.BAD);
        checks.due("8: above 15", x.at(16), SandDots.BAD);
    }

    private static void everyPlaceOfEveryChart() {
        SandDots x = new SandDots();
        int wrong = 0;
        for (int code = 0; code < 65536; code += 1) {
            x.chart(code);
            int[] chart = PlainCharts.ofCode(code);
            for (int place = 0; place < 16; place++) {
                wrong += x.at(place) == chart[place] ? 0 : 1;
            }
            wrong += x.point() == PlainCharts.pointEnds(chart) ? 0 : 1;
        }
        checks.due("8, 11: places and ends that are wrong in all charts", wrong, 0);
    }

    private static void add() {
        SandDots x = new SandDots();
        checks.due("9: like figures", x.add(13, 13), 0);
        checks.due("9: none single in both", x.add(8, 7), 15);
        checks.due("9: one single in both", x.add(9, 5), 12);
        checks.due("9: a above 15", x.add(16, 0), SandDots.BAD);
        checks.due("9: b above 15", x.add(0, 16), SandDots.BAD);
        checks.due("9: a below 0", x.add(-1, 0), SandDots.BAD);
        checks.due("9: b below 0", x.add(0, -1), SandDots.BAD);
    }

    private static void seen() {
        SandDots x = new SandDots();
        checks.due("10: all of them", x.seen(0), 16);
        checks.due("10: none of them", x.seen(15), 0);
        x.chart(4660);
        checks.due("10: 1 in 4660", x.seen(1), 3);
        checks.due("10: 13 in 4660, THE END with it", x.seen(13), 2);
        checks.due("10: 4 in 4660, MOTHER 0 with it", x.seen(4), 2);
        checks.due("10: below 0", x.seen(-1), SandDots.BAD);
        checks.due("10: above 15", x.seen(16), SandDots.BAD);
    }

    private static void point() {
        SandDots x = new SandDots();
        checks.due("11: all mothers and daughters", x.point(), 255);
        x.chart(65535);
        checks.due("11: the nieces", x.point(), 3840);
        x.chart(1);
        checks.due("11: it goes nowhere", x.point(), 1 << 14);
        x.chart(4660);
        checks.due("11: one daughter", x.point(), 64);
    }
}
