/** The edges that promises 21 to 26 name: TRIALS, HOURS and layers. */
public final class TrialEdgeTest {
    private static final int MOST = 1_000_000;

    public static void main(String[] args) {
        promise21Bounds();
        promise21Hundred();
        promise22NoSuch();
        promise22Read();
        promise22TwoHundred();
        promise23NoSuch();
        promise23Hours();
        promise24Bounds();
        promise24NoTrial();
        promise24NotRead();
        promise24NoMoreThanTheWeight();
        promise24MostHours();
        promise25Others();
        promise25Wick();
        promise25Lightest();
        promise26Bounds();
        promise26None();
        promise26Fewest();
        promise26NeverComesToIt();
        Due.end();
    }

    private static Edge fresh() {
        return Edge.at("a new object", x -> { });
    }

    /** TRIAL 1, of WICK 1 and WIDTH 7, that lost so many TENTHS in its hours. */
    private static Edge trial(int... lost) {
        return fresh().then("a TRIAL of " + lost.length + " hours", x -> {
            x.trial(1, 7);
            for (int tenths : lost) {
                x.hour(1, tenths / 10f);
            }
        });
    }

    // ---- promise 21

    // "of a WICK (0 .. 9) and a WIDTH (1 .. 200)"; "3"
    private static void promise21Bounds() {
        for (int wick : Bounds.outside(0, 9)) {
            fresh().refused("trial(" + wick + ", 1)", x -> x.trial(wick, 1), 3);
            fresh().refused("trial(" + wick + ", 201)", x -> x.trial(wick, 201), 3);
        }
        for (int width : Bounds.outside(1, 200)) {
            fresh().refused("trial(0, " + width + ")", x -> x.trial(0, width), 3);
        }
        for (int wick : new int[] {0, 9}) {
            for (int width : new int[] {1, 200}) {
                fresh().done("trial(" + wick + ", " + width + ")", x -> x.trial(wick, width), 1);
                fresh().after("trial", x -> x.trial(wick, width), "hours", x -> x.hours(wick, width, 0), 0);
            }
        }
    }

    // "100 TRIALS"; "8"
    private static void promise21Hundred() {
        Edge nearly = fresh().then("99 TRIALS", x -> trials(x, 99));
        nearly.done("the 100th", x -> x.trial(9, 200), 100);
        nearly.refused("hour of the 100th", x -> x.hour(100, 1f), 1);
        Edge full = fresh().then("100 TRIALS", x -> trials(x, 100));
        full.refused("a 101st", x -> x.trial(0, 1), 8);
        full.refused("a 101st: 3 ahead of 8", x -> x.trial(10, 1), 3);
        full.refused("a 101st: 3 ahead of 8", x -> x.trial(0, 0), 3);
        full.done("hour of the 100th", x -> x.hour(100, 1f), 1);
        full.refused("hour of a 101st", x -> x.hour(101, 1f), 1);
        full.did("torn of the 100th", x -> x.torn(100, 0));
        full.denied("torn of a 101st", x -> x.torn(101, 0), 1);
        full.tells("count(5)", x -> x.count(5), 100);
    }

    private static void trials(Counted x, int n) {
        for (int i = 0; i < n; i++) {
            x.trial(1, 7);
        }
    }

    // ---- promise 22

    // "1"
    private static void promise22NoSuch() {
        fresh().refused("hour without a TRIAL", x -> x.hour(1, 1f), 1);
        Edge full = trial(new int[200]);
        for (int trial : Bounds.outside(1, 1)) {
            trial().refused("hour(" + trial + ", 1)", x -> x.hour(trial, 1f), 1);
            trial().refused("hour(" + trial + ", -1): 1 ahead of 3", x -> x.hour(trial, -1f), 1);
            trial().refused("hour(" + trial + ", NaN): 1 ahead of 4", x -> x.hour(trial, Float.NaN), 1);
            full.refused("hour(" + trial + ", 1), though another is full", x -> x.hour(trial, 1f), 1);
        }
    }

    // "3: what is read is not 0 .. 1,000,000; 4"
    private static void promise22Read() {
        Edge broken = trial(5).then("a broken SCALE", x -> x.scale(false));
        for (float grams : Bounds.gramsOutsideOfAnHour()) {
            trial(5).refused("hour of " + grams + " g", x -> x.hour(1, grams), 3);
            broken.refused("hour of " + grams + " g: 3 does not ask", x -> x.hour(1, grams), 4);
        }
        trial(5).refused("hour of NaN", x -> x.hour(1, Float.NaN), 4);
        broken.refused("hour of NaN", x -> x.hour(1, Float.NaN), 4);
        float[] in = {0f, -0f, Float.MIN_VALUE, Math.nextDown(0.1f), 0.1f, 100000f, Bounds.MOST_GRAMS};
        int[] tenths = {0, 0, 0, 0, 1, MOST, MOST};
        int[] rests = {0, 0, 0, 999, 0, 0, 937};
        for (int i = 0; i < in.length; i++) {
            float grams = in[i];
            trial().done("hour of " + grams + " g", x -> x.hour(1, grams), 1);
            trial().after("hour", x -> x.hour(1, grams), "count(11)", x -> x.count(11), rests[i]);
            int lost = tenths[i];
            trial().after("hour", x -> x.hour(1, grams), "HOURS of what it lost", x -> x.hours(1, 7, lost), 1);
            trial().after("hour", x -> x.hour(1, grams), "HOURS of one less", x -> x.hours(1, 7, lost - 1), lost == 0 ? -1 : 0);
        }
    }

    // "8: it has 200"; "TRIALS of 200 hours each"
    private static void promise22TwoHundred() {
        Edge nearly = trial(new int[199]);
        nearly.done("the 200th hour", x -> x.hour(1, 1f), 200);
        Edge full = trial(new int[200]);
        full.refused("a 201st hour", x -> x.hour(1, 1f), 8);
        full.refused("a 201st hour of -1: 3 ahead of 8", x -> x.hour(1, -1f), 3);
        full.refused("a 201st hour of 100,000.1: 3 ahead of 8", x -> x.hour(1, 100000.1f), 3);
        full.refused("a 201st hour of NaN: 4 ahead of 8", x -> x.hour(1, Float.NaN), 4);
        full.then("a broken SCALE", x -> x.scale(false)).refused("a 201st hour: 4 ahead of 8", x -> x.hour(1, 1f), 4);
        full.tells("HOURS", x -> x.hours(1, 7, 0), 200);
        full.then("cut off", x -> x.torn(1, 199)).done("the 200th hour again", x -> x.hour(1, 1f), 200);
        full.then("another TRIAL", x -> x.trial(1, 7)).done("its first hour", x -> x.hour(2, 1f), 1);
        int[] most = new int[200];
        java.util.Arrays.fill(most, MOST);
        trial(most).tells("HOURS of 1,000,000", x -> x.hours(1, 7, MOST), 1);
        trial(most).tells("HOURS of 999,999", x -> x.hours(1, 7, MOST - 1), 0);
    }

    // ---- promise 23

    // "1"
    private static void promise23NoSuch() {
        fresh().denied("torn without a TRIAL", x -> x.torn(1, 0), 1);
        for (int trial : Bounds.outside(1, 1)) {
            trial(1, 2).denied("torn(" + trial + ", 0)", x -> x.torn(trial, 0), 1);
            trial(1, 2).denied("torn(" + trial + ", -1): 1 ahead of 3", x -> x.torn(trial, -1), 1);
            trial(1, 2).denied("torn(" + trial + ", 3): 1 ahead of 3", x -> x.torn(trial, 3), 1);
        }
    }

    // "3: n is not 0 .. its hours"
    private static void promise23Hours() {
        for (int hours : new int[] {0, 1, 5, 200}) {
            Edge at = trial(new int[hours]);
            for (int n : Bounds.outside(0, hours)) {
                at.denied("torn(1, " + n + ")", x -> x.torn(1, n), 3);
            }
            at.did("torn(1, 0)", x -> x.torn(1, 0));
            at.did("torn(1, " + hours + ")", x -> x.torn(1, hours));
            at.after("torn(1, 0)", x -> x.torn(1, 0), "HOURS", x -> x.hours(1, 7, 0), 0);
            at.after("torn(1, " + hours + ")", x -> x.torn(1, hours), "HOURS", x -> x.hours(1, 7, 0), hours);
        }
        Edge torn = trial(1, 2, 4).then("cut off behind 2 hours", x -> x.torn(1, 2));
        torn.denied("torn(1, 3)", x -> x.torn(1, 3), 3);
        torn.did("torn(1, 2)", x -> x.torn(1, 2));
        torn.tells("HOURS", x -> x.hours(1, 7, MOST), 2);
        torn.done("the third hour anew", x -> x.hour(1, 0.1f), 3);
        torn.after("it loses 1", x -> x.hour(1, 0.1f), "HOURS of 4", x -> x.hours(1, 7, 4), 3);
        torn.after("it loses 1", x -> x.hour(1, 0.1f), "HOURS of 3", x -> x.hours(1, 7, 3), 2);
    }

    // ---- promise 24

    // "NONE also for a WICK, WIDTH, weight (0 .. 1,000,000) out of bounds"
    private static void promise24Bounds() {
        Edge at = fresh().then("TRIALS at the bounds", x -> {
            x.trial(0, 1);
            x.trial(9, 200);
            x.hour(1, 0.1f);
            x.hour(2, 0.1f);
        });
        for (int wick : Bounds.outside(0, 9)) {
            at.tells("hours(" + wick + ", 1, 5)", x -> x.hours(wick, 1, 5), -1);
        }
        for (int width : Bounds.outside(1, 200)) {
            at.tells("hours(0, " + width + ", 5)", x -> x.hours(0, width, 5), -1);
            at.tells("hours(9, " + width + ", 5)", x -> x.hours(9, width, 5), -1);
        }
        for (int weight : Bounds.outside(0, MOST)) {
            at.tells("hours(0, 1, " + weight + ")", x -> x.hours(0, 1, weight), -1);
        }
        at.tells("hours(0, 1, 0)", x -> x.hours(0, 1, 0), 0);
        at.tells("hours(0, 1, 1)", x -> x.hours(0, 1, 1), 1);
        at.tells("hours(9, 200, 1000000)", x -> x.hours(9, 200, MOST), 1);
    }

    // "NONE without a TRIAL of them."
    private static void promise24NoTrial() {
        fresh().tells("hours(1, 7, 5)", x -> x.hours(1, 7, 5), -1);
        trial(1).tells("another WICK", x -> x.hours(0, 7, 5), -1);
        trial(1).tells("another WICK", x -> x.hours(2, 7, 5), -1);
        trial(1).tells("another WIDTH", x -> x.hours(1, 6, 5), -1);
        trial(1).tells("another WIDTH", x -> x.hours(1, 8, 5), -1);
        trial(1).tells("WICK and WIDTH changed", x -> x.hours(7, 1, 5), -1);
    }

    // "not above the most hours that any of its TRIALS was read for": a TRIAL that was not read
    private static void promise24NotRead() {
        trial().tells("HOURS of a TRIAL without hours", x -> x.hours(1, 7, MOST), 0);
        trial().tells("HOURS of a TRIAL without hours", x -> x.hours(1, 7, 0), 0);
        trial(5, 5).then("another without hours", x -> x.trial(1, 7)).tells("HOURS", x -> x.hours(1, 7, 10), 2);
    }

    // "for which each TRIAL lost no more than the weight in its first h hours"
    private static void promise24NoMoreThanTheWeight() {
        Edge at = trial(0, 3, 0, 4, MOST);
        int[] weights = {0, 2, 3, 6, 7, 8, MOST - 1, MOST};
        int[] due = {1, 1, 3, 3, 4, 4, 4, 4};
        for (int i = 0; i < weights.length; i++) {
            int weight = weights[i];
            at.tells("HOURS of " + weight, x -> x.hours(1, 7, weight), due[i]);
        }
        trial(MOST).tells("HOURS of all", x -> x.hours(1, 7, MOST), 1);
        trial(0, 0, 0).tells("HOURS of 0", x -> x.hours(1, 7, 0), 3);
    }

    // "not above the most hours that any of its TRIALS was read for"; "(in all that were read, if fewer)"
    private static void promise24MostHours() {
        Edge at = trial(1, 1, 1, 1).then("a second that was read for 2 hours", x -> {
            x.trial(1, 7);
            x.hour(2, 0.3f);
            x.hour(2, 0.1f);
        });
        int[] due = {0, 0, 0, 1, 4, 4};
        for (int weight = 0; weight < due.length; weight++) {
            int w = weight;
            at.tells("HOURS of " + w, x -> x.hours(1, 7, w), due[w]);
        }
        Edge torn = at.then("the longer is cut off", x -> x.torn(1, 1));
        torn.tells("HOURS of 4", x -> x.hours(1, 7, 4), 2);
        Edge none = torn.then("both are cut off", x -> {
            x.torn(1, 0);
            x.torn(2, 0);
        });
        none.tells("HOURS of 4", x -> x.hours(1, 7, 4), 0);
    }

    // ---- promise 25

    /** A TRIAL of WICK 1 and WIDTH 7, 10 hours of 1 TENTH each; a BATCH of 11 TENTHS in 4 pieces. */
    private static Edge burning(int kind) {
        return fresh().then("a CUT one of KIND " + kind, x -> {
            Shop.fill(x);
            x.trial(1, 7);
            for (int i = 0; i < 10; i++) {
                x.hour(1, 0.1f);
            }
            Shop.cut(x, kind, 1.1f, 4, 7);
        });
    }

    // "of a CUT CANDLE (DIPPED)"; "NONE also for others"
    private static void promise25Others() {
        for (int kind = Shop.PLAIN; kind <= Shop.TWICE; kind++) {
            burning(kind).tells("burns", x -> x.burns(1, 1), -1);
        }
        for (int kind = Shop.CANDLE; kind <= Shop.DIPPED; kind++) {
            int k = kind;
            Edge at = burning(kind);
            at.tells("burns", x -> x.burns(1, 1), 2);
            for (int batch : Bounds.outside(1, 1)) {
                at.tells("burns(" + batch + ", 1)", x -> x.burns(batch, 1), -1);
            }
            at.then("GONE", x -> x.sell(1, 4, 1)).tells("burns", x -> x.burns(1, 1), -1);
            at.then("an OPEN one", x -> Shop.open(x, k, 1f)).tells("burns", x -> x.burns(2, 1), -1);
            at.then("a MIXED one", x -> Shop.mixed(x, k, 1f)).tells("burns", x -> x.burns(2, 1), -1);
            at.then("a POURED one", x -> Shop.poured(x, k, 1f)).tells("burns", x -> x.burns(2, 1), -1);
        }
    }

    // "with a WICK; NONE also for others"; "NONE without a TRIAL of them."
    private static void promise25Wick() {
        Edge at = burning(Shop.CANDLE);
        for (int wick : Bounds.outside(0, 9)) {
            at.tells("burns(1, " + wick + ")", x -> x.burns(1, wick), -1);
        }
        at.tells("a WICK without a TRIAL", x -> x.burns(1, 0), -1);
        at.tells("a WICK without a TRIAL", x -> x.burns(1, 2), -1);
        Edge other = at.then("another WIDTH", x -> Shop.cut(x, Shop.CANDLE, 1f, 1, 8));
        other.tells("a WIDTH without a TRIAL", x -> x.burns(2, 1), -1);
        Edge widest = at.then("the WICK and WIDTH that are the most", x -> {
            Shop.cut(x, Shop.CANDLE, 1f, 1, 200);
            x.trial(9, 200);
            x.hour(2, 1f);
        });
        widest.tells("burns", x -> x.burns(2, 9), 1);
    }

    // "HOURS of the lightest piece, of those not sold"
    private static void promise25Lightest() {
        Edge at = burning(Shop.DIPPED);
        at.tells("2, 3, 3, 3", x -> x.burns(1, 1), 2);
        at.then("2 is sold", x -> x.sell(1, 1, 1)).tells("3, 3, 3", x -> x.burns(1, 1), 3);
        at.then("3 are sold", x -> x.sell(1, 3, 1)).tells("the last", x -> x.burns(1, 1), 3);
        Edge seven = burning(Shop.CANDLE).then("7 in 5 pieces", x -> Shop.cut(x, Shop.CANDLE, 0.7f, 5, 7));
        seven.tells("1, 1, 2, 1, 2", x -> x.burns(2, 1), 1);
        seven.then("2 are sold", x -> x.sell(2, 2, 1)).tells("2, 1, 2", x -> x.burns(2, 1), 1);
        seven.then("4 are sold", x -> x.sell(2, 4, 1)).tells("2", x -> x.burns(2, 1), 2);
        Edge dust = burning(Shop.CANDLE).then("1 in 500 pieces", x -> Shop.cut(x, Shop.CANDLE, 0.1f, 500, 7));
        dust.tells("nothing, 499 times, and 1", x -> x.burns(2, 1), 0);
        dust.then("499 are sold", x -> x.sell(2, 499, 1)).tells("1", x -> x.burns(2, 1), 1);
        Edge most = burning(Shop.CANDLE).then("1,000,000 in a piece", x -> {
            x.lot(0, 100000f, 0, 0);
            Shop.cut(x, Shop.CANDLE, 100000f, 1, 7);
        });
        most.tells("all hours", x -> x.burns(2, 1), 10);
        at.then("years on", x -> Shop.wait(x, 30_000)).tells("CANDLES lose nothing", x -> x.burns(1, 1), 2);
    }

    // ---- promise 26

    // "NONE .. a number is not 0 .. 1,000,000"
    private static void promise26Bounds() {
        for (int n : Bounds.outside(0, MOST)) {
            fresh().tells("dip(" + n + ", 0, 1)", x -> x.dip(n, 0, 1), -1);
            fresh().tells("dip(1, " + n + ", 1)", x -> x.dip(1, n, 1), -1);
            fresh().tells("dip(1, 0, " + n + ")", x -> x.dip(1, 0, n), -1);
            fresh().tells("dip(" + n + ", 0, 0)", x -> x.dip(n, 0, 0), -1);
            fresh().tells("dip(0, " + n + ", 0)", x -> x.dip(0, n, 0), -1);
        }
    }

    private static void dips(int first, int less, int weight, int due) {
        fresh().tells("dip(" + first + ", " + less + ", " + weight + ")", x -> x.dip(first, less, weight), due);
    }

    // "not below a weight (0: none)"
    private static void promise26None() {
        dips(0, 0, 0, 0);
        dips(MOST, 0, 0, 0);
        dips(0, MOST, 0, 0);
        dips(MOST, MOST, 0, 0);
    }

    // "The fewest layers whose weights together are not below a weight"
    private static void promise26Fewest() {
        dips(1, 0, 1, 1);
        dips(1, 0, MOST, MOST);
        dips(2, 0, 999_999, 500_000);
        dips(MOST, 0, MOST, 1);
        dips(MOST, MOST, MOST, 1);
        dips(MOST - 1, 0, MOST, 2);
        dips(10, 3, 10, 1);
        dips(10, 3, 11, 2);
        dips(10, 3, 17, 2);
        dips(10, 3, 18, 3);
        dips(10, 3, 21, 3);
        dips(10, 3, 22, 4);
        dips(1414, 1, MOST, 1387);
    }

    // "none below 0: NONE if all layers never come to it"
    private static void promise26NeverComesToIt() {
        dips(0, 0, 1, -1);
        dips(0, 1, 1, -1);
        dips(0, 0, MOST, -1);
        dips(10, 3, 23, -1);
        dips(9, 3, 18, 3);
        dips(9, 3, 19, -1);
        dips(10, 10, 10, 1);
        dips(10, 10, 11, -1);
        dips(10, 11, 11, -1);
        dips(MOST - 1, MOST, MOST, -1);
        dips(MOST - 1, MOST - 2, MOST, 2);
        dips(MOST - 1, MOST - 1, MOST, -1);
        dips(1413, 1, 998_991, 1413);
        dips(1413, 1, 998_992, -1);
    }
}
