/** Promises 21 to 26: TRIALS, HOURS and layers. */
public final class TrialTest {
    public static void main(String[] args) {
        promise21Trial();
        promise22Hour();
        promise22Room();
        promise23Torn();
        promise24Hours();
        promise24Several();
        promise25Burns();
        promise25Lightest();
        promise26Dip();
        promise26AllLayers();
        Due.end();
    }

    private static void promise21Trial() {
        Counted x = new Counted();
        Due.refused("trial(-1, 1)", x, x.trial(-1, 1), 3);
        Due.refused("trial(10, 1)", x, x.trial(10, 1), 3);
        Due.refused("trial(0, 0)", x, x.trial(0, 0), 3);
        Due.refused("trial(0, 201)", x, x.trial(0, 201), 3);
        Due.is("count(5)", x.count(5), 0);
        Due.done("trial(0, 1)", x, x.trial(0, 1), 1);
        Due.done("trial(9, 200)", x, x.trial(9, 200), 2);
        for (int i = 3; i <= 100; i++) {
            Due.done("trial", x, x.trial(i % 10, i), i);
        }
        Due.refused("a 101st TRIAL", x, x.trial(0, 1), 8);
        Due.refused("a 101st TRIAL: 3 ahead of 8", x, x.trial(0, 0), 3);
        Due.is("count(5)", x.count(5), 100);
    }

    private static void promise22Hour() {
        Counted x = new Counted();
        Due.refused("hour without a TRIAL", x, x.hour(1, 1f), 1);
        x.trial(1, 1);
        Due.refused("hour(0, ..)", x, x.hour(0, 1f), 1);
        Due.refused("hour(2, -1): 1 ahead of 3", x, x.hour(2, -1f), 1);
        Due.refused("-0.01 g: the number itself is below 0", x, x.hour(1, -0.01f), 3);
        Due.refused("-1 g", x, x.hour(1, -1f), 3);
        Due.refused("100,000.1 g", x, x.hour(1, 100000.1f), 3);
        Due.refused("grams without end", x, x.hour(1, Float.POSITIVE_INFINITY), 3);
        Due.refused("no number", x, x.hour(1, Float.NaN), 4);
        Due.done("0 g", x, x.hour(1, 0f), 1);
        Due.done("-0 g", x, x.hour(1, -0f), 2);
        Due.is("count(11)", x.count(11), 0);
        Due.done("0.075 g", x, x.hour(1, 0.075f), 3);
        Due.is("count(11)", x.count(11), 750);
        Due.refused("-1 g", x, x.hour(1, -1f), 3);
        Due.is("count(11) stays", x.count(11), 750);
        Due.done("100,000 g", x, x.hour(1, 100000f), 4);
        Due.done("100,000.05 g", x, x.hour(1, 100000.05f), 5);
        Due.is("HOURS of 1,000,000", x.hours(1, 1, 1000000), 4);
        Due.is("HOURS of 999,999", x.hours(1, 1, 999999), 3);
        Due.is("HOURS of 0", x.hours(1, 1, 0), 3);
        x.scale(false);
        Due.refused("broken", x, x.hour(1, 1f), 4);
        Due.refused("broken: of what is read 3 does not ask", x, x.hour(1, -1f), 4);
        Due.refused("broken: 1 ahead of 4", x, x.hour(2, 1f), 1);
    }

    private static void promise22Room() {
        Counted x = new Counted();
        x.trial(1, 1);
        x.trial(1, 2);
        for (int i = 1; i <= 200; i++) {
            Due.done("hour", x, x.hour(1, 100000f), i);
        }
        Due.refused("a 201st hour", x, x.hour(1, 1f), 8);
        Due.refused("a 201st hour: 3 ahead of 8", x, x.hour(1, -1f), 3);
        Due.refused("a 201st hour: 4 ahead of 8", x, x.hour(1, Float.NaN), 4);
        Due.is("HOURS", x.hours(1, 1, 1000000), 1);
        Due.done("another TRIAL has room", x, x.hour(2, 0f), 1);
        x.torn(1, 199);
        Due.done("room again", x, x.hour(1, 1f), 200);
        Due.refused("a 201st hour", x, x.hour(1, 1f), 8);
    }

    private static void promise23Torn() {
        Counted x = new Counted();
        Due.denied("torn without a TRIAL", x, x.torn(1, 0), 1);
        x.trial(1, 1);
        Due.done("torn(1, 0) of none", x, x.torn(1, 0));
        Due.denied("torn(1, 1) of none", x, x.torn(1, 1), 3);
        for (int i = 0; i < 5; i++) {
            x.hour(1, 0.1f);
        }
        Due.denied("torn(0, 0)", x, x.torn(0, 0), 1);
        Due.denied("torn(2, -1): 1 ahead of 3", x, x.torn(2, -1), 1);
        Due.denied("torn(1, -1)", x, x.torn(1, -1), 3);
        Due.denied("torn(1, 6)", x, x.torn(1, 6), 3);
        Due.is("HOURS", x.hours(1, 1, 100), 5);
        Due.done("torn(1, 5)", x, x.torn(1, 5));
        Due.is("HOURS", x.hours(1, 1, 100), 5);
        Due.done("torn(1, 3)", x, x.torn(1, 3));
        Due.is("HOURS", x.hours(1, 1, 100), 3);
        Due.denied("torn(1, 4)", x, x.torn(1, 4), 3);
        Due.done("the next hour", x, x.hour(1, 9.8f), 4);
        Due.is("HOURS of 100", x.hours(1, 1, 100), 3);
        Due.is("HOURS of 101", x.hours(1, 1, 101), 4);
        Due.done("torn(1, 0)", x, x.torn(1, 0));
        Due.is("HOURS", x.hours(1, 1, 100), 0);
        x.hour(1, 1f);
        Due.is("HOURS of 10", x.hours(1, 1, 10), 1);
    }

    private static void promise24Hours() {
        Counted x = new Counted();
        Due.is("HOURS without a TRIAL", x.hours(1, 1, 1), -1);
        x.trial(1, 7);
        Due.is("HOURS of a TRIAL that was not read", x.hours(1, 7, 1000000), 0);
        x.hour(1, 1f);
        x.hour(1, 2f);
        x.hour(1, 0f);
        x.hour(1, 3f);
        int[] weights = {0, 9, 10, 29, 30, 59, 60, 1000000};
        int[] due = {0, 0, 1, 1, 3, 3, 4, 4};
        for (int i = 0; i < weights.length; i++) {
            Due.is("hours(1, 7, " + weights[i] + ")", x.hours(1, 7, weights[i]), due[i]);
        }
        Due.is("hours(1, 7, -1)", x.hours(1, 7, -1), -1);
        Due.is("hours(1, 7, 1000001)", x.hours(1, 7, 1000001), -1);
        Due.is("another WICK", x.hours(2, 7, 30), -1);
        Due.is("another WIDTH", x.hours(1, 8, 30), -1);
        Due.is("hours(-1, 7, 30)", x.hours(-1, 7, 30), -1);
        Due.is("hours(10, 7, 30)", x.hours(10, 7, 30), -1);
        Due.is("hours(1, 0, 30)", x.hours(1, 0, 30), -1);
        Due.is("hours(1, 201, 30)", x.hours(1, 201, 30), -1);
        Due.refused("day(0)", x, x.day(0), 3);
        x.hours(1, 7, 30);
        x.hours(1, 7, -1);
        Due.is("status() stays", x.status(), 3);
    }

    private static void promise24Several() {
        Counted x = new Counted();
        x.trial(3, 5);
        x.trial(3, 6);
        x.trial(3, 5);
        x.trial(4, 5);
        for (int i = 0; i < 6; i++) {
            x.hour(1, 1f);
        }
        x.hour(2, 99f);
        x.hour(3, 2f);
        x.hour(3, 2f);
        x.hour(4, 99f);
        Due.is("19: the second lost 20", x.hours(3, 5, 19), 0);
        Due.is("20: the second lost 40", x.hours(3, 5, 20), 1);
        Due.is("39: the second lost 40", x.hours(3, 5, 39), 1);
        Due.is("40: the second was read no more", x.hours(3, 5, 40), 4);
        Due.is("60: the most hours", x.hours(3, 5, 60), 6);
        Due.is("1,000: the most hours", x.hours(3, 5, 1000), 6);
        x.trial(3, 5);
        Due.is("one that was not read says nothing", x.hours(3, 5, 60), 6);
        x.hour(5, 6.1f);
        Due.is("60: the third lost 61", x.hours(3, 5, 60), 0);
        Due.is("another WIDTH", x.hours(3, 6, 989), 0);
        Due.is("another WIDTH", x.hours(3, 6, 990), 1);
    }

    private static void promise25Burns() {
        Counted x = Shop.full();
        Due.is("burns without a BATCH", x.burns(1, 1), -1);
        x.trial(1, 7);
        x.hour(1, 0.2f);
        x.hour(1, 0.2f);
        x.trial(2, 8);
        x.hour(2, 0.1f);
        for (int kind = 0; kind < 5; kind++) {
            boolean candle = kind >= Shop.CANDLE;
            int batch = Shop.cut(x, kind, 0.8f, 2, 7);
            Due.is("burns of KIND " + kind, x.burns(batch, 1), candle ? 2 : -1);
            Due.is("without a TRIAL of its WIDTH", x.burns(batch, 2), -1);
            Due.is("burns(.., -1)", x.burns(batch, -1), -1);
            Due.is("burns(.., 10)", x.burns(batch, 10), -1);
            Due.is("OPEN", x.burns(Shop.open(x, kind, 1f), 1), -1);
            Due.is("MIXED", x.burns(Shop.mixed(x, kind, 1f), 1), -1);
            Due.is("POURED", x.burns(Shop.poured(x, kind, 1f), 1), -1);
        }
        Due.is("burns(0, 1)", x.burns(0, 1), -1);
        Due.is("burns(21, 1)", x.burns(21, 1), -1);
        int candle = Shop.cut(x, Shop.CANDLE, 0.6f, 2, 7);
        Due.is("pieces of 3", x.burns(candle, 1), 1);
        x.day(1000);
        Due.is("a CANDLE loses no weight", x.burns(candle, 1), 1);
        Due.refused("day(0)", x, x.day(0), 3);
        x.burns(candle, 1);
        x.burns(99, 1);
        Due.is("status() stays", x.status(), 3);
        x.sell(candle, 2, 1);
        Due.is("GONE", x.burns(candle, 1), -1);
    }

    private static void promise25Lightest() {
        Counted x = Shop.full();
        x.trial(0, 1);
        for (int i = 0; i < 10; i++) {
            x.hour(1, 0.1f);
        }
        int candle = Shop.cut(x, Shop.DIPPED, 1.1f, 4, 1);
        int[] pieces = {2, 3, 3, 3};
        for (int k = 0; k < 4; k++) {
            Due.is("11 by 4, piece " + k, x.piece(candle, k), pieces[k]);
        }
        Due.is("the lightest is 2", x.burns(candle, 0), 2);
        Due.is("HOURS of the same", x.hours(0, 1, 2), 2);
        x.sell(candle, 1, 1);
        Due.is("that is sold", x.burns(candle, 0), 3);
        int other = Shop.cut(x, Shop.CANDLE, 0.7f, 5, 1);
        int[] others = {1, 1, 2, 1, 2};
        for (int k = 0; k < 5; k++) {
            Due.is("7 by 5, piece " + k, x.piece(other, k), others[k]);
        }
        x.sell(other, 2, 1);
        Due.is("2, 1 and 2 are left", x.burns(other, 0), 1);
        x.sell(other, 2, 1);
        Due.is("the last is left", x.burns(other, 0), 2);
        int dust = Shop.cut(x, Shop.CANDLE, 0.7f, 500, 1);
        Due.is("pieces of nothing", x.burns(dust, 0), 0);
    }

    private static void promise26Dip() {
        Counted x = new Counted();
        int most = 1000000;
        int[][] bad = {{-1, 0, 0}, {most + 1, 0, 0}, {1, -1, 0}, {1, most + 1, 0}, {1, 0, -1}, {1, 0, most + 1}};
        for (int[] b : bad) {
            Due.is("dip(" + b[0] + ", " + b[1] + ", " + b[2] + ")", x.dip(b[0], b[1], b[2]), -1);
        }
        int[][] due = {
            {0, 0, 0, 0}, {most, most, 0, 0}, {0, most, 0, 0}, {0, 0, 1, -1}, {0, 5, 1, -1},
            {1, 0, 1, 1}, {1, 0, most, most}, {2, 0, most - 1, 500000}, {2, 0, most, 500000}, {3, 0, most, 333334},
            {most, 0, most, 1}, {most, most, most, 1}, {most - 1, most, most, -1}, {most - 1, most - 2, most, 2},
            {10, 3, 10, 1}, {10, 3, 11, 2}, {10, 3, 17, 2}, {10, 3, 18, 3}, {10, 3, 21, 3}, {10, 3, 22, 4}, {10, 3, 23, -1},
            {9, 3, 18, 3}, {9, 3, 19, -1}, {10, 11, 10, 1}, {10, 11, 11, -1}, {10, 10, 11, -1},
            {1413, 1, 998991, 1413}, {1413, 1, 998992, -1}, {1414, 1, most, 1387}, {most, 1, most, 1},
        };
        for (int[] d : due) {
            Due.is("dip(" + d[0] + ", " + d[1] + ", " + d[2] + ")", x.dip(d[0], d[1], d[2]), d[3]);
        }
        Due.refused("day(0)", x, x.day(0), 3);
        x.dip(1, 0, 1);
        x.dip(-1, 0, 1);
        Due.is("status() stays", x.status(), 3);
    }

    private static void promise26AllLayers() {
        for (int first = 0; first <= 12; first++) {
            for (int less = 0; less <= 13; less++) {
                Counted x = new Counted();
                for (int weight = 0; weight <= 85; weight++) {
                    Due.is("dip(" + first + ", " + less + ", " + weight + ")", x.dip(first, less, weight),
                            layerByLayer(first, less, weight));
                }
            }
        }
    }

    private static int layerByLayer(int first, int less, int weight) {
        int together = 0;
        int layer = first;
        for (int n = 0; n < 100; n++) {
            if (together >= weight) {
                return n;
            }
            together += layer;
            layer = Math.max(0, layer - less);
        }
        return -1;
    }
}
