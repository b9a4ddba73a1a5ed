/** The edges that promises 27 to 36 and 39 name: what only tells. */
public final class TellEdgeTest {
    private static final int LYE = Shop.LYE;
    private static final int MOST = 1_000_000;
    private static final int[] KINDS = {Shop.PLAIN, Shop.SOAP, Shop.TWICE, Shop.CANDLE, Shop.DIPPED};

    public static void main(String[] args) {
        promise27Bounds();
        promise27BelowNothing();
        promise27Off();
        promise27OthersNeverAre();
        promise28NoSuch();
        promise28NoNeed();
        promise28LeastWeight();
        promise28WhateverItsState();
        promise28MoreThanAMillion();
        promise29Bounds();
        promise29MixedSoaps();
        promise29MostWeight();
        promise29BelowSpare();
        promise29Lightest();
        promise30Others();
        promise30FirstDay();
        promise31NoPiece();
        promise31Weights();
        promise31AtLeastNothing();
        promise32Places();
        promise33Others();
        promise33NoneYet();
        promise33Recipe();
        promise34Others();
        promise34Strength();
        promise35NoSuch();
        promise36Others();
        promise36NotTwice();
        promise36Rest();
        promise39NoSuch();
        promise39FirstThatHolds();
        Due.end();
    }

    private static Edge filled() {
        return Edge.at("GOODS", Shop::fill);
    }

    /** FAT 0 with NEED 1, LYE with STRENGTH 1, and RECIPE 0 with a SPARE: N by 1, P by 10. */
    private static Edge fine(int spare) {
        return Edge.at("SPARE " + spare, x -> {
            x.fat(1);
            x.row(0, 0, 1);
            x.recipe(spare);
            x.lot(0, 100000f, 1000, 0);
            x.lot(0, 100000f, 1000, 0);
            x.lot(LYE, 100000f, 1000, 1);
        });
    }

    /** A BATCH with so many TENTHS of FAT 0 and of LYE. */
    private static int soap(Counted x, int kind, int fat, int lye) {
        int batch = x.batch(kind, 0);
        if (fat > 0) {
            x.weigh(batch, 0, fat / 10f);
        }
        if (lye > 0) {
            x.weigh(batch, LYE, lye / 10f);
        }
        return batch;
    }

    private static void mixed(Counted x, int fat, int lye) {
        x.mix(soap(x, Shop.SOAP, fat, lye));
    }

    /** BATCH 1 in a STATE, from OPEN to GONE; it was CUT into 10 pieces, with 5 for its CURE or WIDTH. */
    private static Edge inState(int kind, int state) {
        return filled().then("KIND " + kind + " in STATE " + state, x -> {
            Shop.open(x, kind, 100f);
            if (state >= 1) {
                x.mix(1);
            }
            if (state >= 2) {
                x.mould(1);
                x.pour(1, 1);
            }
            if (state >= 3) {
                x.cut(1, 10, 5);
            }
            if (state >= 4) {
                x.day(5);
                x.sell(1, 10, 3);
            }
        });
    }

    private static boolean isSoap(int kind) {
        return kind == Shop.SOAP || kind == Shop.TWICE;
    }

    // ---- promise 27

    // "NONE for others, or if there is none such."
    private static void promise27Bounds() {
        Edge at = fine(10).then("a SOAP", x -> soap(x, Shop.SOAP, 100, 9));
        for (int batch : Bounds.outside(1, 1)) {
            at.tells("even(" + batch + ", 0)", x -> x.even(batch, 0), -1);
            at.tells("even(" + batch + ", 2)", x -> x.even(batch, 2), -1);
        }
        for (int what : Bounds.outside(0, 2)) {
            at.tells("even(1, " + what + ")", x -> x.even(1, what), -1);
        }
        at.tells("even(1, 0)", x -> x.even(1, 0), 10);
        at.tells("even(1, 1)", x -> x.even(1, 1), 100);
        at.tells("even(1, 2)", x -> x.even(1, 2), 0);
    }

    // "(N - P may be below 0.)"
    private static void promise27BelowNothing() {
        fine(0).then("LYE alone", x -> soap(x, Shop.SOAP, 0, 1)).tells("even(1, 0)", x -> x.even(1, 0), -10);
        fine(0).then("LYE alone", x -> soap(x, Shop.SOAP, 0, 1)).tells("even(1, 1)", x -> x.even(1, 1), 0);
        Edge most = Edge.at("the strongest LYE", x -> {
            x.recipe(0);
            x.lot(LYE, 100000f, 0, 1000);
            x.batch(Shop.SOAP, 0);
            x.weigh(1, LYE, 100000f);
        });
        most.tells("even(1, 0)", x -> x.even(1, 0), -10_000_000_000L);
        Edge greatest = Edge.at("the greatest NEED", x -> {
            x.fat(1);
            x.row(0, 0, 9999);
            x.recipe(50);
            x.lot(0, 100000f, 0, 0);
            x.batch(Shop.SOAP, 0);
            x.weigh(1, 0, 100000f);
        });
        greatest.tells("even(1, 1)", x -> x.even(1, 1), 9_999_000_000L);
        greatest.tells("even(1, 2)", x -> x.even(1, 2), 0);
    }

    // "A SOAP is OFF if (N - P) times 100 is below N times its RECIPE's SPARE (or N is 0)"
    private static void promise27Off() {
        off(0, 0, 0, 1);
        off(0, 0, 1, 1);
        off(0, 1, 0, 0);
        off(0, 10, 1, 0);
        off(0, 9, 1, 1);
        off(10, 100, 9, 0);
        off(10, 99, 9, 1);
        off(10, 1, 0, 0);
        off(50, 100, 5, 0);
        off(50, 99, 5, 1);
        off(50, 101, 5, 0);
        off(33, 1000, 67, 0);
        off(33, 999, 67, 1);
        Edge zero = fine(0).then("NEED 0", x -> {
            x.row(0, 0, 0);
            soap(x, Shop.SOAP, 5, 0);
        });
        zero.tells("N is 0, though there is FAT", x -> x.even(1, 2), 1);
    }

    private static void off(int spare, int fat, int lye, int due) {
        for (int kind = Shop.SOAP; kind <= Shop.TWICE; kind++) {
            int k = kind;
            Edge at = fine(spare).then("SPARE " + spare + ", N " + fat + ", P " + 10 * lye, x -> soap(x, k, fat, lye));
            at.tells("even(1, 2)", x -> x.even(1, 2), due);
            at.tells("N - P", x -> x.even(1, 0), fat - 10 * lye);
        }
    }

    // "others never are"
    private static void promise27OthersNeverAre() {
        for (int kind : KINDS) {
            Edge empty = filled().then("an empty one of KIND " + kind, x -> x.batch(kind, 0));
            empty.tells("even(1, 2)", x -> x.even(1, 2), isSoap(kind) ? 1 : 0);
            for (int state = 0; state < 5; state++) {
                inState(kind, state).tells("even(1, 2)", x -> x.even(1, 2), 0);
            }
        }
    }

    // ---- promise 28

    // "NONE: no such SOAP"
    private static void promise28NoSuch() {
        Edge at = fine(0).then("a SOAP", x -> soap(x, Shop.SOAP, 0, 1));
        for (int batch : Bounds.outside(1, 1)) {
            at.tells("more(" + batch + ", 0)", x -> x.more(batch, 0), -1);
        }
        for (int fat : new int[] {Integer.MIN_VALUE, -1, 1, 59, LYE, 61, Integer.MAX_VALUE}) {
            at.tells("more(1, " + fat + ")", x -> x.more(1, fat), -1);
        }
        for (int kind : KINDS) {
            if (!isSoap(kind)) {
                fine(0).then("KIND " + kind, x -> soap(x, kind, 5, 0)).tells("more(1, 0)", x -> x.more(1, 0), -1);
            }
        }
    }

    // "that FAT has no NEED, or one of 0"
    private static void promise28NoNeed() {
        Edge at = fine(0).then("a SOAP that is OFF", x -> soap(x, Shop.SOAP, 0, 1));
        at.then("a FAT of no ROW", x -> x.fat(0)).tells("more(1, 1)", x -> x.more(1, 1), -1);
        at.then("a FAT of NEED 0", x -> x.fat(1)).tells("more(1, 1)", x -> x.more(1, 1), -1);
        at.then("a torn ROW", x -> x.tear(0)).tells("more(1, 0)", x -> x.more(1, 0), -1);
        at.then("a FAT of NEED 9,999", x -> {
            x.fat(1);
            x.row(1, 0, 9999);
        }).tells("more(1, 1)", x -> x.more(1, 1), 1);
        Edge lot = filled().then("a SOAP and a FAT of which there is none", x -> {
            x.fat(1);
            x.row(2, 0, 1000);
            x.batch(Shop.SOAP, 0);
        });
        lot.tells("more(1, 2)", x -> x.more(1, 2), 1);
    }

    // "The least weight of a FAT .. would have it not OFF; 0 if it is not"
    private static void promise28LeastWeight() {
        more(0, 0, 0, 1);
        more(0, 1, 0, 0);
        more(0, 0, 1, 10);
        more(0, 9, 1, 1);
        more(0, 10, 1, 0);
        more(10, 0, 9, 100);
        more(10, 99, 9, 1);
        more(10, 100, 9, 0);
        more(10, 0, 1, 12);
        more(10, 11, 1, 1);
        more(10, 12, 1, 0);
        more(50, 0, 1, 20);
        more(50, 19, 1, 1);
        more(50, 20, 1, 0);
    }

    private static void more(int spare, int fat, int lye, int due) {
        Edge at = fine(spare).then("SPARE " + spare + ", N " + fat + ", P " + 10 * lye, x -> soap(x, Shop.TWICE, fat, lye));
        at.tells("more(1, 0)", x -> x.more(1, 0), due);
        if (due > 0) {
            at.after("so much", x -> x.weigh(1, 0, due / 10f), "even(1, 2)", x -> x.even(1, 2), 0);
            if (due > 1) {
                at.after("one less", x -> x.weigh(1, 0, (due - 1) / 10f), "even(1, 2)", x -> x.even(1, 2), 1);
            }
        }
    }

    // "(whatever its STATE)"
    private static void promise28WhateverItsState() {
        Edge open = fine(0).then("OPEN", x -> soap(x, Shop.SOAP, 5, 1));
        Edge mixed = open.then("MIXED", x -> x.mix(1));
        Edge poured = mixed.then("POURED", x -> {
            x.mould(0);
            x.pour(1, 0);
        });
        Edge cut = poured.then("CUT", x -> x.cut(1, 2, 0));
        for (Edge at : new Edge[] {open, mixed, poured, cut}) {
            at.tells("more(1, 0)", x -> x.more(1, 0), 5);
        }
        Edge swallowed = open.then("GONE, put into another", x -> x.with(soap(x, Shop.SOAP, 1, 0), 1));
        swallowed.tells("more(1, 0)", x -> x.more(1, 0), 1);
        inState(Shop.SOAP, 4).tells("more(1, 0) of one that was sold", x -> x.more(1, 0), 0);
    }

    // "or more than 1,000,000 would be wanted"
    private static void promise28MoreThanAMillion() {
        Edge just = fine(0).then("P 1,000,000", x -> soap(x, Shop.SOAP, 0, 100_000));
        just.tells("more(1, 0)", x -> x.more(1, 0), MOST);
        Edge above = fine(0).then("P 1,000,010", x -> soap(x, Shop.SOAP, 0, 100_001));
        above.tells("more(1, 0)", x -> x.more(1, 0), -1);
        Edge nine = fine(0).then("N 9, P 1,000,010", x -> soap(x, Shop.SOAP, 9, 100_001));
        nine.tells("more(1, 0): 1,000,001", x -> x.more(1, 0), -1);
        Edge ten = fine(0).then("N 10, P 1,000,010", x -> soap(x, Shop.SOAP, 10, 100_001));
        ten.tells("more(1, 0)", x -> x.more(1, 0), MOST);
        Edge most = fine(50).then("the strongest LYE", x -> {
            x.lot(LYE, 100000f, 0, 1000);
            x.spill(LYE, 100000f);
            soap(x, Shop.SOAP, 0, MOST);
        });
        most.tells("more(1, 0): 20,000,000,000", x -> x.more(1, 0), -1);
    }

    // ---- promise 29

    /** Two MIXED SOAPS of 10 TENTHS each. */
    private static Edge pair() {
        return fine(0).then("two MIXED SOAPS", x -> {
            mixed(x, 10, 0);
            mixed(x, 10, 0);
        });
    }

    // "this SPARE then (0 .. 50 ..)"; "NONE without one, or for other numbers"
    private static void promise29Bounds() {
        for (int spare : Bounds.outside(0, 50)) {
            pair().tells("save(" + spare + ", 0)", x -> x.save(spare, 0), -1);
        }
        for (int what : Bounds.outside(0, 1)) {
            pair().tells("save(0, " + what + ")", x -> x.save(0, what), -1);
        }
        for (int spare : new int[] {0, 50}) {
            pair().tells("save(" + spare + ", 0)", x -> x.save(spare, 0), 1);
            pair().tells("save(" + spare + ", 1)", x -> x.save(spare, 1), 2);
        }
        fine(0).tells("save without a BATCH", x -> x.save(0, 0), -1);
        fine(0).then("one SOAP", x -> mixed(x, 10, 0)).tells("save of one", x -> x.save(0, 0), -1);
    }

    // "Of all pairs of different SOAPS that are MIXED"
    private static void promise29MixedSoaps() {
        for (int kind : KINDS) {
            for (int state = 0; state < 5; state++) {
                Edge at = inState(kind, state).then("KIND " + kind + ", STATE " + state + " and a MIXED SOAP",
                        x -> Shop.mixed(x, Shop.TWICE, 1f));
                boolean both = isSoap(kind) && state == 1;
                at.tells("save(0, 0)", x -> x.save(0, 0), both ? 1 : -1);
                at.tells("save(0, 1)", x -> x.save(0, 1), both ? 2 : -1);
            }
        }
        pair().then("put together", x -> x.with(1, 2)).tells("save(0, 0)", x -> x.save(0, 0), -1);
        Edge open = filled().then("two OPEN SOAPS", x -> {
            Shop.open(x, Shop.SOAP, 1f);
            Shop.open(x, Shop.SOAP, 1f);
        });
        Edge poured = filled().then("two POURED SOAPS", x -> {
            Shop.poured(x, Shop.SOAP, 1f);
            Shop.poured(x, Shop.SOAP, 1f);
        });
        Edge cut = filled().then("two CUT SOAPS", x -> {
            Shop.cut(x, Shop.SOAP, 1f, 1, 1);
            Shop.cut(x, Shop.SOAP, 1f, 1, 1);
        });
        for (Edge at : new Edge[] {open, poured, cut}) {
            at.tells("save(0, 0)", x -> x.save(0, 0), -1);
            at.tells("save(0, 1)", x -> x.save(0, 1), -1);
        }
    }

    // "which can be put together (1,000,000 at most)"
    private static void promise29MostWeight() {
        Edge just = fine(0).then("600,000 and 400,000", x -> {
            mixed(x, 600_000, 0);
            mixed(x, 400_000, 0);
        });
        just.tells("save(0, 0)", x -> x.save(0, 0), 1);
        Edge above = fine(0).then("600,000 and 400,001", x -> {
            mixed(x, 600_000, 0);
            mixed(x, 400_001, 0);
        });
        above.tells("save(0, 0)", x -> x.save(0, 0), -1);
        above.then("399,999 too", x -> mixed(x, 399_999, 0)).tells("save(0, 0)", x -> x.save(0, 0), 2);
    }

    // "would not be below this SPARE then (.. N not 0)"
    private static void promise29BelowSpare() {
        spared(0, 10, 0, 0, 1, true);
        spared(0, 9, 0, 0, 1, false);
        spared(10, 50, 0, 50, 9, true);
        spared(10, 50, 0, 49, 9, false);
        spared(50, 50, 5, 50, 0, true);
        spared(50, 50, 5, 49, 0, false);
        spared(0, 0, 1, 0, 1, false);
        Edge zero = fine(0).then("two of NEED 0", x -> {
            x.row(0, 0, 0);
            mixed(x, 10, 0);
            mixed(x, 10, 0);
        });
        zero.tells("N is 0", x -> x.save(0, 0), -1);
    }

    private static void spared(int spare, int fat, int lye, int fat2, int lye2, boolean due) {
        // The RECIPE's own SPARE is another one: it does not count here.
        Edge at = fine(spare == 0 ? 50 : 0).then("N " + (fat + fat2) + ", P " + 10 * (lye + lye2), x -> {
            mixed(x, fat, lye);
            mixed(x, fat2, lye2);
        });
        at.tells("save(" + spare + ", 0)", x -> x.save(spare, 0), due ? 1 : -1);
        at.tells("save(" + spare + ", 1)", x -> x.save(spare, 1), due ? 2 : -1);
    }

    // "the least weight (of several the one with the lowest first, then second number; first below second)"
    private static void promise29Lightest() {
        lightest(1, 2, 10, 10, 10);
        lightest(2, 3, 11, 10, 10);
        lightest(1, 3, 10, 11, 10);
        lightest(1, 2, 10, 11, 11);
        lightest(1, 3, 10, 12, 11);
        lightest(1, 4, 10, 12, 11, 10);
        lightest(2, 3, 12, 10, 11, 11);
        lightest(1, 3, 11, 12, 10, 12);
        lightest(1, 8, 5, 6, 6, 5, 7, 6, 5, 4, 8);
    }

    private static void lightest(int first, int second, int... fats) {
        Edge at = fine(0).then("SOAPS of " + java.util.Arrays.toString(fats), x -> {
            for (int fat : fats) {
                mixed(x, fat, 0);
            }
        });
        at.tells("save(0, 0)", x -> x.save(0, 0), first);
        at.tells("save(0, 1)", x -> x.save(0, 1), second);
    }

    // ---- promise 30

    // "a CUT SOAP"; "NONE for others"
    private static void promise30Others() {
        for (int kind : KINDS) {
            for (int state = 0; state < 5; state++) {
                boolean is = isSoap(kind) && state == 3;
                inState(kind, state).tells("ready(1)", x -> x.ready(1), is ? 5 : -1);
            }
        }
        for (int batch : Bounds.outside(1, 1)) {
            inState(Shop.SOAP, 3).tells("ready(" + batch + ")", x -> x.ready(batch), -1);
        }
    }

    // "The first day on which .. may be READY (by its days alone)"
    private static void promise30FirstDay() {
        for (int cure : new int[] {0, 1, 400}) {
            Edge at = inState(Shop.TWICE, 2).then("a CURE of " + cure, x -> {
                x.day(3);
                x.cut(1, 10, cure);
            });
            at.tells("ready(1)", x -> x.ready(1), 3 + cure);
            at.then("days go by", x -> x.day(900)).tells("ready(1)", x -> x.ready(1), 3 + cure);
            at.then("boiled", x -> {
                x.day(2);
                x.boil(1);
            }).tells("ready(1)", x -> x.ready(1), 5 + cure);
        }
        Edge off = filled().then("OFF, CUT on day 0", x -> Shop.cutOff(x, Shop.TWICE, 2, 5));
        off.tells("by its days alone", x -> x.ready(1), 5);
        off.then("weighed into on day 2", x -> {
            x.day(2);
            x.weigh(1, LYE, 1f);
        }).tells("ready(1)", x -> x.ready(1), 7);
        off.then("boiled on day 2, weighed into on day 4", x -> {
            x.day(2);
            x.boil(1);
            x.day(2);
            x.weigh(1, 0, 1f);
        }).tells("ready(1)", x -> x.ready(1), 9);
        off.then("weighed into on day 2, boiled on day 4", x -> {
            x.day(2);
            x.weigh(1, 0, 1f);
            x.day(2);
            x.boil(1);
        }).tells("ready(1)", x -> x.ready(1), 9);
        off.then("a weighing on day 2 that is refused", x -> {
            x.day(2);
            x.weigh(1, 0, 0f);
        }).tells("ready(1)", x -> x.ready(1), 5);
    }

    // ---- promise 31

    // "NONE without one."
    private static void promise31NoPiece() {
        for (int kind : KINDS) {
            for (int state = 0; state < 5; state++) {
                Edge at = inState(kind, state);
                at.tells("piece(1, 0)", x -> x.piece(1, 0), state == 3 ? 100 : -1);
                at.tells("piece(1, 9)", x -> x.piece(1, 9), state == 3 ? 100 : -1);
                for (int k : Bounds.outside(0, 9)) {
                    at.tells("piece(1, " + k + ")", x -> x.piece(1, k), -1);
                }
            }
        }
        for (int batch : Bounds.outside(1, 1)) {
            inState(Shop.SOAP, 3).tells("piece(" + batch + ", 0)", x -> x.piece(batch, 0), -1);
        }
        Edge sold = inState(Shop.CANDLE, 3).then("one is sold", x -> x.sell(1, 1, 1));
        sold.tells("the last", x -> x.piece(1, 9), 100);
        sold.tells("none beyond", x -> x.piece(1, 10), -1);
    }

    // "piece k (0 .. n - 1) has weight w (k + 1) / n, cut, less w k / n, cut"
    private static void promise31Weights() {
        pieces(0.7f, 5, 1, 1, 2, 1, 2);
        pieces(0.1f, 3, 0, 0, 1);
        pieces(0.2f, 3, 0, 1, 1);
        pieces(1f, 3, 3, 3, 4);
        pieces(1f, 1, 10);
        Edge most = filled().then("1,000,000 into 499", x -> Shop.cut(x, Shop.PLAIN, 100000f, 499, 0));
        most.tells("piece(1, 0)", x -> x.piece(1, 0), 2004);
        most.tells("piece(1, 498)", x -> x.piece(1, 498), 2005);
        Edge whole = filled().then("1,000,000 into 1", x -> Shop.cut(x, Shop.PLAIN, 100000f, 1, 0));
        whole.tells("piece(1, 0)", x -> x.piece(1, 0), MOST);
    }

    private static void pieces(float grams, int n, int... due) {
        Edge at = filled().then(grams + " g into " + n, x -> Shop.cut(x, Shop.PLAIN, grams, n, 0));
        for (int k = 0; k < n; k++) {
            int piece = k;
            at.tells("piece(1, " + k + ")", x -> x.piece(1, piece), due[k]);
        }
    }

    // "times (1,000 less LOSS times the days since it was CUT), by 1,000, cut (0 at least). LOSS is 2 at first."
    private static void promise31AtLeastNothing() {
        int[] days = {0, 1, 499, 500, 501, 30_000};
        int[] due = {1000, 998, 2, 0, 0, 0};
        for (int kind : KINDS) {
            Edge at = filled().then("1,000 in a piece, KIND " + kind, x -> Shop.cut(x, kind, 100f, 1, 1));
            for (int i = 0; i < days.length; i++) {
                int day = days[i];
                Edge then = at.then("day " + day, x -> Shop.wait(x, day));
                then.tells("piece(1, 0)", x -> x.piece(1, 0), isSoap(kind) ? due[i] : 1000);
            }
        }
        Edge small = filled().then("1 TENTH", x -> Shop.cut(x, Shop.SOAP, 0.1f, 1, 1));
        small.tells("piece(1, 0) today", x -> x.piece(1, 0), 1);
        small.then("a day on", x -> x.day(1)).tells("piece(1, 0): 0.998, cut", x -> x.piece(1, 0), 0);
        Edge boiled = filled().then("boiled on day 10", x -> {
            Shop.cut(x, Shop.TWICE, 100f, 1, 1);
            x.day(10);
            x.boil(1);
        });
        boiled.tells("since it was CUT, not boiled", x -> x.piece(1, 0), 980);
        Edge later = filled().then("CUT on day 10", x -> {
            x.day(10);
            Shop.cut(x, Shop.SOAP, 100f, 1, 1);
        });
        later.tells("piece(1, 0) as it is CUT", x -> x.piece(1, 0), 1000);
        later.then("day 11", x -> x.day(1)).tells("piece(1, 0)", x -> x.piece(1, 0), 998);
    }

    // ---- promise 32

    // "NONE nothing, 0 a MOULD, else the BATCH; NONE if there is none such"
    private static void promise32Places() {
        Edge at = inState(Shop.SOAP, 2).then("MOULDS at both ends", x -> {
            x.mould(0);
            x.mould(39);
        });
        for (int place : Bounds.outside(0, 39)) {
            at.tells("place(" + place + ")", x -> x.place(place), -1);
        }
        at.tells("place(0)", x -> x.place(0), 0);
        at.tells("place(1)", x -> x.place(1), 1);
        at.tells("place(2)", x -> x.place(2), -1);
        at.tells("place(39)", x -> x.place(39), 0);
        at.then("CUT", x -> x.cut(1, 2, 1)).tells("place(1)", x -> x.place(1), 0);
    }

    // ---- promise 33

    // "NONE for others, or if there is none such."
    private static void promise33Others() {
        Edge at = inState(Shop.CANDLE, 3);
        for (int what : Bounds.outside(0, 10)) {
            at.tells("told(1, " + what + ")", x -> x.told(1, what), -1);
        }
        for (int batch : Bounds.outside(1, 1)) {
            for (int what = 0; what <= 10; what++) {
                int w = what;
                at.tells("told(" + batch + ", " + w + ")", x -> x.told(batch, w), -1);
            }
        }
    }

    // "5 its place (NONE)", "7 those that are not sold (0 of what was not CUT)", "8 the day of its cutting (NONE)",
    // "9 WIDTH (0 of those that have none)"
    private static void promise33NoneYet() {
        int[][] due = {
            {0, 1000, 1000, 0, -1, 0, 0, -1, 0, 0},
            {1, 1000, 1000, 0, -1, 0, 0, -1, 0, 0},
            {2, 1000, 1000, 0, 1, 0, 0, -1, 0, 0},
            {3, 1000, 1000, 0, -1, 10, 10, 0, 5, 0},
            {4, 1000, 1000, 0, -1, 10, 0, 0, 5, 3},
        };
        for (int kind : KINDS) {
            for (int state = 0; state < 5; state++) {
                Edge at = inState(kind, state);
                at.tells("told(1, 0)", x -> x.told(1, 0), kind);
                for (int what = 1; what <= 10; what++) {
                    int w = what;
                    boolean noWidth = what == 9 && kind < Shop.CANDLE;
                    at.tells("told(1, " + w + ")", x -> x.told(1, w), noWidth ? 0 : due[state][w - 1]);
                }
            }
        }
    }

    // "4 RECIPE"
    private static void promise33Recipe() {
        Edge most = Edge.at("100 RECIPES", x -> {
            for (int i = 0; i < 100; i++) {
                x.recipe(0);
            }
            x.batch(Shop.SOAP, 99);
            x.batch(Shop.SOAP, 1);
        });
        most.tells("told(1, 4)", x -> x.told(1, 4), 99);
        most.tells("told(2, 4)", x -> x.told(2, 4), 1);
        most.then("put together", x -> x.with(1, 2)).tells("told(1, 4)", x -> x.told(1, 4), 99);
    }

    // ---- promise 34

    // "NONE for others, or if there is none such."
    private static void promise34Others() {
        for (int lot : Bounds.outside(1, 3)) {
            for (int what = 0; what <= 4; what++) {
                int w = what;
                filled().tells("left(" + lot + ", " + w + ")", x -> x.left(lot, w), -1);
            }
        }
        for (int what : Bounds.outside(0, 4)) {
            filled().tells("left(1, " + what + ")", x -> x.left(1, what), -1);
            filled().tells("left(3, " + what + ")", x -> x.left(3, what), -1);
        }
        filled().tells("left(3, 0)", x -> x.left(3, 0), LYE);
        Edge empty = filled().then("an empty LOT", x -> x.spill(0, 100000f));
        for (int what = 0; what <= 4; what++) {
            int w = what;
            empty.tells("left(1, " + w + ")", x -> x.left(1, w), 0);
        }
    }

    // "3 STRENGTH today (of FATS 0)"; "one less for each full 10 days since it came (0 at least)"
    private static void promise34Strength() {
        int[] days = {0, 9, 10, 9989, 9990, 9999, 10_000, 10_010, 29_995};
        int[] due = {1000, 1000, 999, 2, 1, 1, 0, 0, 0};
        for (int i = 0; i < days.length; i++) {
            int day = days[i];
            Edge at = Edge.at("LYE of STRENGTH 1,000 after " + day + " days", x -> {
                x.fat(1);
                x.day(5);
                x.lot(LYE, 1f, 1, 1000);
                x.lot(0, 1f, 1, 1000);
                Shop.wait(x, day);
            });
            at.tells("left(1, 3)", x -> x.left(1, 3), due[i]);
            at.tells("left(2, 3)", x -> x.left(2, 3), 0);
            at.tells("left(1, 4)", x -> x.left(1, 4), 5);
        }
    }

    // ---- promise 35

    // "NONE if there is none such"
    private static void promise35NoSuch() {
        for (int good : new int[] {Integer.MIN_VALUE, -1, 2, 59, 61, Integer.MAX_VALUE}) {
            filled().tells("stock(" + good + ")", x -> x.stock(good), -1);
        }
        filled().tells("stock(0)", x -> x.stock(0), MOST);
        filled().tells("stock(60)", x -> x.stock(LYE), MOST);
        filled().then("a FAT without LOTS", x -> x.fat(0)).tells("stock(2)", x -> x.stock(2), 0);
        filled().then("all is spilt", x -> x.spill(0, 100000f)).tells("stock(0)", x -> x.stock(0), 0);
        Edge most = filled().then("400 LOTS", x -> {
            for (int i = 0; i < 397; i++) {
                x.lot(0, 100000f, 0, 0);
            }
        });
        most.tells("stock(0)", x -> x.stock(0), 398_000_000);
    }

    // ---- promise 36

    // "NONE for others."
    private static void promise36Others() {
        for (int what : Bounds.outside(0, 12)) {
            filled().tells("count(" + what + ")", x -> x.count(what), -1);
        }
        long[] due = {0, 2, 1, 3, 0, 0, 3_000_000, 3_000_000, 0, 0, 0, 0, 2};
        for (int what = 0; what <= 12; what++) {
            int w = what;
            filled().tells("count(" + w + ")", x -> x.count(w), due[w]);
        }
    }

    // "8 coins that all BATCHES bear (GONE ones, too, but not twice)"
    private static void promise36NotTwice() {
        inState(Shop.PLAIN, 4).tells("count(8): GONE ones, too", x -> x.count(8), 1000);
        inState(Shop.PLAIN, 4).tells("count(10)", x -> x.count(10), 3);
        Edge together = filled().then("two put together", x -> {
            Shop.open(x, Shop.SOAP, 100f);
            Shop.open(x, Shop.SOAP, 50f);
            x.with(1, 2);
        });
        together.tells("count(8): not twice", x -> x.count(8), 1500);
        together.tells("count(7)", x -> x.count(7), 3_000_000 - 1500);
        together.tells("count(6)", x -> x.count(6), 3_000_000);
        together.tells("count(4)", x -> x.count(4), 2);
    }

    // "11 REST of the latest weighing that was read"
    private static void promise36Rest() {
        Edge at = filled().then("a LOT of 0.175 g", x -> {
            x.batch(Shop.SOAP, 0);
            x.trial(1, 7);
            x.lot(0, 0.175f, 1, 0);
        });
        at.tells("count(11)", x -> x.count(11), 750);
        at.after("a LOT that is not read", x -> x.lot(0, Float.NaN, 1, 0), "count(11)", x -> x.count(11), 750);
        at.after("a LOT of 0.05 g", x -> x.lot(0, 0.05f, 1, 0), "count(11)", x -> x.count(11), 750);
        at.after("weigh", x -> x.weigh(1, 0, 0.15f), "count(11)", x -> x.count(11), 500);
        at.after("spill", x -> x.spill(0, 0.125f), "count(11)", x -> x.count(11), 250);
        at.after("hour", x -> x.hour(1, 0.125f), "count(11)", x -> x.count(11), 250);
        at.after("weigh 0.1 g", x -> x.weigh(1, 0, 0.1f), "count(11)", x -> x.count(11), 0);
    }

    // ---- promise 39

    // "NONE if there is none such"
    private static void promise39NoSuch() {
        Edge at = fine(0).then("a SOAP", x -> soap(x, Shop.SOAP, 20, 1));
        for (int batch : Bounds.outside(1, 1)) {
            at.tells("check(" + batch + ", 21, 20, 10)", x -> x.check(batch, 21, 20, 10), -1);
            at.tells("check(" + batch + ", 0, 0, 0)", x -> x.check(batch, 0, 0, 0), -1);
        }
    }

    // "0 it is just so; 1 another weight, 2 another N, 3 another P (the first that holds)"
    private static void promise39FirstThatHolds() {
        Edge at = fine(0).then("a SOAP", x -> soap(x, Shop.SOAP, 20, 1));
        at.tells("just so", x -> x.check(1, 21, 20, 10), 0);
        for (int weight : new int[] {Integer.MIN_VALUE, -21, 0, 20, 22, Integer.MAX_VALUE}) {
            at.tells("weight " + weight, x -> x.check(1, weight, 20, 10), 1);
            at.tells("weight " + weight + ", N and P", x -> x.check(1, weight, 19, 9), 1);
        }
        for (long n : new long[] {Long.MIN_VALUE, -20, 0, 19, 21, 20 + (1L << 32), Long.MAX_VALUE}) {
            at.tells("N " + n, x -> x.check(1, 21, n, 10), 2);
            at.tells("N " + n + " and P", x -> x.check(1, 21, n, 11), 2);
        }
        for (long p : new long[] {Long.MIN_VALUE, -10, 0, 9, 11, 10 + (1L << 32), Long.MAX_VALUE}) {
            at.tells("P " + p, x -> x.check(1, 21, 20, p), 3);
        }
        Edge empty = fine(0).then("an empty one", x -> x.batch(Shop.PLAIN, 0));
        empty.tells("check(1, 0, 0, 0)", x -> x.check(1, 0, 0, 0), 0);
    }
}
