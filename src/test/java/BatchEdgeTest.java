/** The edges that promises 12 to 20 name: BATCHES from their beginning to their sale. */
public final class BatchEdgeTest {
    private static final int LYE = Shop.LYE;
    private static final int[] KINDS = {Shop.PLAIN, Shop.SOAP, Shop.TWICE, Shop.CANDLE, Shop.DIPPED};
    private static final int[] SOAPS = {Shop.SOAP, Shop.TWICE};
    private static final int[] NO_SOAPS = {Shop.PLAIN, Shop.CANDLE, Shop.DIPPED};

    public static void main(String[] args) {
        promise12NoSuchRecipe();
        promise12Kind();
        promise12FourHundred();
        promise13NoSuch();
        promise13NotOpen();
        promise13OffAndCut();
        promise13LyeIntoNoSoap();
        promise13Read();
        promise13MostWeight();
        promise13NoNeed();
        promise13NotSoMuch();
        promise13Strength();
        promise14Mix();
        promise15Places();
        promise15BatchThere();
        promise16NoSuch();
        promise16NotAsWanted();
        promise17NoSuch();
        promise17NotPoured();
        promise17Pieces();
        promise17More();
        promise18Boil();
        promise18Cure();
        promise19NoSuch();
        promise19NotAsWanted();
        promise19MostWeight();
        promise19Empty();
        promise20NoSuch();
        promise20NotCut();
        promise20Bounds();
        promise20NotSoMany();
        promise20NotReady();
        promise20Cure();
        Due.end();
    }

    private static Edge filled() {
        return Edge.at("GOODS", Shop::fill);
    }

    // ---- places where a run begins: BATCH 1, of a KIND, with 1,000 TENTHS of FAT 0 unless it is said

    private static Edge open(int kind) {
        return filled().then("an OPEN one of KIND " + kind, x -> Shop.open(x, kind, 100f));
    }

    private static Edge mixed(int kind) {
        return open(kind).then("a MIXED one of KIND " + kind, x -> x.mix(1));
    }

    private static Edge poured(int kind) {
        return mixed(kind).then("a POURED one of KIND " + kind, x -> {
            x.mould(1);
            x.pour(1, 1);
        });
    }

    private static Edge cut(int kind) {
        return poured(kind).then("a CUT one of KIND " + kind, x -> x.cut(1, 10, 5));
    }

    private static Edge sold(int kind) {
        return cut(kind).then("a GONE one of KIND " + kind, x -> {
            x.day(5);
            x.sell(1, 10, 7);
        });
    }

    /** A SOAP with too much LYE. */
    private static Edge openOff(int kind) {
        return open(kind).then("an OPEN one that is OFF", x -> x.weigh(1, LYE, 100f));
    }

    private static Edge cutOff(int kind) {
        return openOff(kind).then("a CUT one that is OFF", x -> {
            x.mix(1);
            x.mould(1);
            x.pour(1, 1);
            x.cut(1, 10, 5);
        });
    }

    private static Edge[] all(int kind) {
        return new Edge[] {open(kind), mixed(kind), poured(kind), cut(kind), sold(kind)};
    }

    private static final int OPEN = 0;
    private static final int MIXED = 1;
    private static final int POURED = 2;
    private static final int CUT = 3;

    // ---- promise 12

    // "1"
    private static void promise12NoSuchRecipe() {
        Edge.at("a new object", x -> { }).refused("batch(0, 0)", x -> x.batch(0, 0), 1);
        for (int recipe : Bounds.outside(0, 0)) {
            filled().refused("batch(0, " + recipe + ")", x -> x.batch(0, recipe), 1);
            filled().refused("batch(5, " + recipe + "): 1 ahead of 2", x -> x.batch(5, recipe), 1);
            full().refused("batch(0, " + recipe + "): 1 ahead of 8", x -> x.batch(0, recipe), 1);
            full().refused("batch(-1, " + recipe + "): 1 ahead of 2 and 8", x -> x.batch(-1, recipe), 1);
        }
    }

    // "2: no such KIND"
    private static void promise12Kind() {
        for (int kind : Bounds.outside(0, 4)) {
            filled().refused("batch(" + kind + ", 0)", x -> x.batch(kind, 0), 2);
            full().refused("batch(" + kind + ", 0): 2 ahead of 8", x -> x.batch(kind, 0), 2);
        }
        for (int kind : KINDS) {
            filled().done("batch(" + kind + ", 0)", x -> x.batch(kind, 0), 1);
            filled().after("batch", x -> x.batch(kind, 0), "told(1, 0)", x -> x.told(1, 0), kind);
            filled().after("batch", x -> x.batch(kind, 0), "told(1, 1)", x -> x.told(1, 1), OPEN);
        }
    }

    // "400 BATCHES"; "8"
    private static void promise12FourHundred() {
        Edge nearly = filled().then("399 BATCHES", x -> batches(x, 399));
        nearly.done("the 400th", x -> x.batch(4, 0), 400);
        nearly.refused("weigh into the 400th", x -> x.weigh(400, 0, 1f), 1);
        full().refused("a 401st", x -> x.batch(0, 0), 8);
        full().tells("count(4)", x -> x.count(4), 400);
        full().done("weigh into the 400th", x -> x.weigh(400, 0, 1f), 10);
        full().refused("weigh into a 401st", x -> x.weigh(401, 0, 1f), 1);
        full().then("one is GONE", x -> x.with(1, 2)).refused("a GONE one gives no room", x -> x.batch(0, 0), 8);
    }

    private static Edge full() {
        return filled().then("400 BATCHES", x -> batches(x, 400));
    }

    private static void batches(Counted x, int n) {
        for (int i = 0; i < n; i++) {
            x.batch(Shop.SOAP, 0);
        }
    }

    // ---- promise 13

    // "1"
    private static void promise13NoSuch() {
        filled().refused("weigh without a BATCH", x -> x.weigh(1, 0, 1f), 1);
        for (int batch : Bounds.outside(1, 1)) {
            open(Shop.SOAP).refused("weigh(" + batch + ", 0, 1)", x -> x.weigh(batch, 0, 1f), 1);
            open(Shop.SOAP).refused("weigh(" + batch + ", 0, 0): 1 ahead of 3", x -> x.weigh(batch, 0, 0f), 1);
            open(Shop.SOAP).refused("weigh(" + batch + ", 0, NaN): 1 ahead of 4", x -> x.weigh(batch, 0, Float.NaN), 1);
            open(Shop.SOAP).refused("weigh(" + batch + ", 1, 1): 1 ahead of 5", x -> x.weigh(batch, 1, 1f), 1);
            open(Shop.SOAP).refused("weigh(" + batch + ", 0, all): 1 ahead of 6", x -> x.weigh(batch, 0, 100000f), 1);
        }
        for (int good : new int[] {Integer.MIN_VALUE, -1, 2, 59, 61, Integer.MAX_VALUE}) {
            open(Shop.SOAP).refused("weigh(1, " + good + ", 1)", x -> x.weigh(1, good, 1f), 1);
            mixed(Shop.SOAP).refused("weigh(1, " + good + ", 1): 1 ahead of 2", x -> x.weigh(1, good, 1f), 1);
            open(Shop.SOAP).refused("weigh(1, " + good + ", 0): 1 ahead of 3", x -> x.weigh(1, good, 0f), 1);
            open(Shop.SOAP).refused("weigh(1, " + good + ", NaN): 1 ahead of 4", x -> x.weigh(1, good, Float.NaN), 1);
        }
    }

    // "2: it is not OPEN (a SOAP that is OFF: nor CUT)"
    private static void promise13NotOpen() {
        for (int kind : KINDS) {
            Edge[] at = all(kind);
            at[OPEN].done("weigh", x -> x.weigh(1, 0, 0.1f), 1);
            for (int state = MIXED; state < at.length; state++) {
                at[state].refused("weigh, KIND " + kind, x -> x.weigh(1, 0, 0.1f), 2);
            }
        }
        for (int state = MIXED; state < 5; state++) {
            Edge at = all(Shop.SOAP)[state];
            at.refused("weigh 0: 2 ahead of 3", x -> x.weigh(1, 0, 0f), 2);
            at.refused("weigh too much: 2 ahead of 3", x -> x.weigh(1, 0, 99999f), 2);
            at.refused("weigh NaN: 2 ahead of 4", x -> x.weigh(1, 0, Float.NaN), 2);
            at.refused("weigh without NEED: 2 ahead of 5", x -> x.weigh(1, 1, 1f), 2);
            at.then("no FAT is left", x -> x.spill(0, 99900f)).refused("weigh of none: 2 ahead of 6", x -> x.weigh(1, 0, 1f), 2);
        }
        Edge swallowed = open(Shop.SOAP).then("one that was put into another", x -> x.with(Shop.open(x, Shop.SOAP, 1f), 1));
        swallowed.refused("weigh into a GONE one, though OFF", x -> x.weigh(1, 0, 1f), 2);
    }

    // "(a SOAP that is OFF: nor CUT)"
    private static void promise13OffAndCut() {
        for (int kind : SOAPS) {
            Edge mixed = openOff(kind).then("MIXED and OFF", x -> x.mix(1));
            mixed.refused("weigh", x -> x.weigh(1, 0, 1f), 2);
            Edge poured = mixed.then("POURED and OFF", x -> {
                x.mould(1);
                x.pour(1, 1);
            });
            poured.refused("weigh", x -> x.weigh(1, 0, 1f), 2);
            Edge cut = cutOff(kind);
            cut.done("weigh a FAT", x -> x.weigh(1, 0, 1f), 10);
            cut.done("weigh LYE", x -> x.weigh(1, LYE, 1f), 10);
            cut.refused("weigh 0", x -> x.weigh(1, 0, 0f), 3);
            cut.refused("weigh NaN", x -> x.weigh(1, 0, Float.NaN), 4);
            cut.refused("weigh a FAT without NEED", x -> x.weigh(1, 1, 1f), 5);
            cut.refused("its weight would be above 1,000,000", x -> x.weigh(1, 0, 99900.1f), 3);
            cut.then("no FAT is left", x -> x.spill(0, 99900f)).refused("weigh of none", x -> x.weigh(1, 0, 1f), 6);
            cut.tells("more", x -> x.more(1, 0), 4556);
            Edge nearly = cut.then("nearly put right", x -> x.weigh(1, 0, 455.5f));
            nearly.done("the last of it", x -> x.weigh(1, 0, 0.1f), 1);
            Edge right = cut.then("put right", x -> x.weigh(1, 0, 455.6f));
            right.refused("weigh", x -> x.weigh(1, 0, 0.1f), 2);
            right.tells("it stays CUT", x -> x.told(1, 1), CUT);
        }
    }

    // "LYE into no SOAP"
    private static void promise13LyeIntoNoSoap() {
        for (int kind : NO_SOAPS) {
            Edge at = open(kind);
            at.refused("weigh LYE", x -> x.weigh(1, LYE, 1f), 2);
            at.refused("weigh 0 of LYE: 2 ahead of 3", x -> x.weigh(1, LYE, 0f), 2);
            at.refused("weigh NaN of LYE: 2 ahead of 4", x -> x.weigh(1, LYE, Float.NaN), 2);
            at.then("no LYE is left", x -> x.spill(LYE, 100000f)).refused("LYE: 2 ahead of 6", x -> x.weigh(1, LYE, 1f), 2);
        }
        for (int kind : SOAPS) {
            open(kind).done("weigh LYE", x -> x.weigh(1, LYE, 0.1f), 1);
        }
    }

    // "3"; "4"
    private static void promise13Read() {
        Edge at = filled().then("an empty BATCH", x -> x.batch(Shop.SOAP, 0));
        Edge broken = at.then("a broken SCALE", x -> x.scale(false));
        for (float grams : Bounds.gramsOutside()) {
            at.refused("weigh " + grams + " g", x -> x.weigh(1, 0, grams), 3);
            at.refused("weigh " + grams + " g without NEED: 3 ahead of 5", x -> x.weigh(1, 1, grams), 3);
            broken.refused("weigh " + grams + " g: 3 does not ask", x -> x.weigh(1, 0, grams), 4);
        }
        at.refused("weigh NaN", x -> x.weigh(1, 0, Float.NaN), 4);
        at.refused("weigh NaN without NEED: 4 ahead of 5", x -> x.weigh(1, 1, Float.NaN), 4);
        broken.refused("weigh without NEED: 4 ahead of 5", x -> x.weigh(1, 1, 1f), 4);
        Edge none = at.then("nothing is left", x -> x.spill(0, 100000f));
        none.refused("weigh 0 of none: 3 ahead of 6", x -> x.weigh(1, 0, 0f), 3);
        none.refused("weigh NaN of none: 4 ahead of 6", x -> x.weigh(1, 0, Float.NaN), 4);
        at.done("weigh 0.1 g", x -> x.weigh(1, 0, 0.1f), 1);
        at.done("weigh 100,000 g", x -> x.weigh(1, 0, 100000f), 1_000_000);
        at.done("weigh 1,000,000.9 TENTHS", x -> x.weigh(1, 0, Bounds.MOST_GRAMS), 1_000_000);
        at.after("weigh", x -> x.weigh(1, 0, Bounds.MOST_GRAMS), "count(11)", x -> x.count(11), 937);
    }

    // "(also: its weight would be above 1,000,000)"
    private static void promise13MostWeight() {
        Edge at = filled().then("999,990 in a PLAIN one", x -> {
            x.lot(0, 100000f, 0, 0);
            Shop.open(x, Shop.PLAIN, 99999f);
        });
        at.done("10 more", x -> x.weigh(1, 0, 1f), 10);
        at.done("10.9 more", x -> x.weigh(1, 0, 1.09f), 10);
        at.refused("11 more", x -> x.weigh(1, 0, 1.1f), 3);
        at.refused("1,000,000 more", x -> x.weigh(1, 0, 100000f), 3);
        at.then("a broken SCALE", x -> x.scale(false)).refused("11 more: 3 does not ask", x -> x.weigh(1, 0, 1.1f), 4);
        Edge full = at.then("1,000,000 in it", x -> x.weigh(1, 0, 1f));
        full.refused("1 more", x -> x.weigh(1, 0, 0.1f), 3);
        full.refused("NaN more", x -> x.weigh(1, 0, Float.NaN), 4);
        full.tells("told(1, 2)", x -> x.told(1, 2), 1_000_000);
        Edge soap = filled().then("1,000,000 in a SOAP", x -> {
            x.batch(Shop.SOAP, 0);
            x.weigh(1, LYE, 100000f);
        });
        soap.refused("1 more", x -> x.weigh(1, 0, 0.1f), 3);
        soap.refused("1 more without NEED: 3 ahead of 5", x -> x.weigh(1, 1, 0.1f), 3);
        soap.refused("1 more of none: 3 ahead of 6", x -> x.weigh(1, LYE, 0.1f), 3);
        Edge cut = soap.then("1,000,000 in a CUT SOAP that is OFF", x -> {
            x.mix(1);
            x.mould(1);
            x.pour(1, 1);
            x.cut(1, 500, 400);
        });
        cut.refused("1 more", x -> x.weigh(1, 0, 0.1f), 3);
    }

    // "5: a FAT without NEED into a SOAP"
    private static void promise13NoNeed() {
        for (int kind : SOAPS) {
            Edge at = open(kind);
            at.refused("a FAT without NEED", x -> x.weigh(1, 1, 1f), 5);
            at.then("a torn ROW", x -> x.tear(0)).refused("a FAT without NEED", x -> x.weigh(1, 0, 1f), 5);
            at.then("a NEED of 0", x -> x.row(0, 0, 0)).done("a FAT with NEED 0", x -> x.weigh(1, 0, 1f), 10);
            at.then("nothing is left", x -> x.spill(1, 100000f)).refused("without NEED: 5 ahead of 6", x -> x.weigh(1, 1, 1f), 5);
        }
        for (int kind : NO_SOAPS) {
            open(kind).done("a FAT without NEED", x -> x.weigh(1, 1, 1f), 10);
            open(kind).then("a torn ROW", x -> x.tear(0)).done("a FAT without NEED", x -> x.weigh(1, 0, 1f), 10);
        }
    }

    // "6"
    private static void promise13NotSoMuch() {
        for (int good : new int[] {0, LYE}) {
            Edge ten = filled().then("10 TENTHS are left", x -> {
                x.spill(good, 99999f);
                x.batch(Shop.SOAP, 0);
            });
            ten.done("weigh 10", x -> x.weigh(1, good, 1f), 10);
            ten.refused("weigh 11", x -> x.weigh(1, good, 1.1f), 6);
            ten.refused("weigh 1,000,000", x -> x.weigh(1, good, 100000f), 6);
            Edge none = ten.then("nothing is left", x -> x.weigh(1, good, 1f));
            none.refused("weigh 1", x -> x.weigh(1, good, 0.1f), 6);
        }
        Edge.at("no LOT at all", x -> {
            x.recipe(0);
            x.batch(Shop.SOAP, 0);
        }).refused("weigh LYE", x -> x.weigh(1, LYE, 0.1f), 6);
    }

    // "one less for each full 10 days since it came (0 at least)"; "times its STRENGTH then"
    private static void promise13Strength() {
        Edge at = Edge.at("LYE of STRENGTH 2", x -> {
            x.lot(LYE, 100f, 0, 2);
            x.recipe(0);
            x.batch(Shop.SOAP, 0);
        });
        int[] days = {0, 9, 10, 19, 20, 29, 30, 1000};
        int[] strengths = {2, 2, 1, 1, 0, 0, 0, 0};
        for (int i = 0; i < days.length; i++) {
            int day = days[i];
            Edge then = at.then("day " + day, x -> Shop.wait(x, day));
            then.tells("left(1, 3)", x -> x.left(1, 3), strengths[i]);
            then.after("weigh", x -> x.weigh(1, LYE, 1f), "N - P", x -> x.even(1, 0), -100L * strengths[i]);
        }
        Edge late = at.then("the last day", x -> Shop.wait(x, 30_000));
        late.tells("left(1, 3)", x -> x.left(1, 3), 0);
        Edge two = at.then("another LOT, of STRENGTH 1,000", x -> x.lot(LYE, 100f, 0, 1000));
        two.after("weigh of both", x -> x.weigh(1, LYE, 100.1f), "N - P", x -> x.even(1, 0), -(20L * 1000 + 10_000));
        two.after("weigh twice", x -> {
            x.weigh(1, LYE, 100f);
            x.weigh(1, LYE, 0.1f);
        }, "N - P", x -> x.even(1, 0), -(20L * 1000 + 10_000));
    }

    // ---- promise 14

    // "1; 2: it is not OPEN; 6: its weight is 0"
    private static void promise14Mix() {
        filled().denied("mix without a BATCH", x -> x.mix(1), 1);
        for (int batch : Bounds.outside(1, 1)) {
            open(Shop.SOAP).denied("mix(" + batch + ")", x -> x.mix(batch), 1);
        }
        for (int kind : KINDS) {
            Edge empty = filled().then("an empty one of KIND " + kind, x -> x.batch(kind, 0));
            empty.denied("mix", x -> x.mix(1), 6);
            empty.then("1 TENTH in it", x -> x.weigh(1, 0, 0.1f)).did("mix", x -> x.mix(1));
            Edge[] at = all(kind);
            at[OPEN].did("mix", x -> x.mix(1));
            at[OPEN].after("mix", x -> x.mix(1), "told(1, 1)", x -> x.told(1, 1), MIXED);
            for (int state = MIXED; state < at.length; state++) {
                at[state].denied("mix", x -> x.mix(1), 2);
            }
        }
        openOff(Shop.SOAP).did("mix one that is OFF", x -> x.mix(1));
        Edge gone = open(Shop.SOAP).then("GONE, of weight 0", x -> x.with(Shop.open(x, Shop.SOAP, 1f), 1));
        gone.denied("mix: 2 ahead of 6", x -> x.mix(1), 2);
    }

    // ---- promise 15

    // "The RACK has places 0 .. 39"; "1"
    private static void promise15Places() {
        for (int place : Bounds.outside(0, 39)) {
            filled().refused("mould(" + place + ")", x -> x.mould(place), 1);
            filled().tells("place(" + place + ")", x -> x.place(place), -1);
        }
        for (int place : new int[] {0, 39}) {
            filled().done("mould(" + place + ")", x -> x.mould(place), 1);
            Edge at = filled().then("a MOULD on " + place, x -> x.mould(place));
            at.tells("place(" + place + ")", x -> x.place(place), 0);
            at.done("mould(" + place + ") again", x -> x.mould(place), 0);
            Edge none = at.then("it goes", x -> x.mould(place));
            none.tells("place(" + place + ")", x -> x.place(place), -1);
            none.done("mould(" + place + ") once more", x -> x.mould(place), 1);
        }
        Edge all = filled().then("a MOULD on every place", x -> {
            for (int place = 0; place < 40; place++) {
                x.mould(place);
            }
        });
        all.refused("mould(40)", x -> x.mould(40), 1);
        all.done("mould(39)", x -> x.mould(39), 0);
        all.tells("place(0)", x -> x.place(0), 0);
    }

    // "2: a BATCH is there"
    private static void promise15BatchThere() {
        poured(Shop.SOAP).refused("mould(1)", x -> x.mould(1), 2);
        poured(Shop.SOAP).done("mould(0)", x -> x.mould(0), 1);
        poured(Shop.SOAP).done("mould(2)", x -> x.mould(2), 1);
        cut(Shop.SOAP).done("mould(1): the MOULD is empty again", x -> x.mould(1), 0);
        Edge full = filled().then("a BATCH on every place", x -> {
            for (int place = 0; place < 40; place++) {
                x.mould(place);
                x.pour(Shop.mixed(x, Shop.PLAIN, 1f), place);
            }
        });
        for (int place : new int[] {0, 39}) {
            full.tells("place(" + place + ")", x -> x.place(place), place + 1);
            full.refused("mould(" + place + ")", x -> x.mould(place), 2);
            full.denied("pour the last again", x -> x.pour(40, place), 2);
        }
    }

    // ---- promise 16

    // "1"
    private static void promise16NoSuch() {
        Edge at = mixed(Shop.SOAP).then("an empty MOULD", x -> x.mould(0));
        for (int batch : Bounds.outside(1, 1)) {
            at.denied("pour(" + batch + ", 0)", x -> x.pour(batch, 0), 1);
            at.denied("pour(" + batch + ", 5) where nothing is: 1 ahead of 2", x -> x.pour(batch, 5), 1);
            at.denied("pour(" + batch + ", 40)", x -> x.pour(batch, 40), 1);
        }
        for (int place : Bounds.outside(0, 39)) {
            at.denied("pour(1, " + place + ")", x -> x.pour(1, place), 1);
            open(Shop.SOAP).denied("pour(1, " + place + ") of an OPEN one: 1 ahead of 2", x -> x.pour(1, place), 1);
        }
    }

    // "A MIXED BATCH is POURED into an empty MOULD (it is on that place then)"; "2"
    private static void promise16NotAsWanted() {
        for (int kind : KINDS) {
            Edge[] at = all(kind);
            for (int state = 0; state < at.length; state++) {
                Edge mould = at[state].then("STATE " + state + " and an empty MOULD", x -> x.mould(39));
                if (state == MIXED) {
                    mould.did("pour", x -> x.pour(1, 39));
                    mould.after("pour", x -> x.pour(1, 39), "place(39)", x -> x.place(39), 1);
                    mould.after("pour", x -> x.pour(1, 39), "told(1, 5)", x -> x.told(1, 5), 39);
                    mould.after("pour", x -> x.pour(1, 39), "told(1, 1)", x -> x.told(1, 1), POURED);
                } else {
                    mould.denied("pour", x -> x.pour(1, 39), 2);
                }
            }
        }
        mixed(Shop.SOAP).denied("pour where nothing is", x -> x.pour(1, 0), 2);
        Edge two = poured(Shop.SOAP).then("another MIXED one", x -> Shop.mixed(x, Shop.SOAP, 1f));
        two.denied("pour where a BATCH is", x -> x.pour(2, 1), 2);
        two.denied("pour a POURED one onto itself", x -> x.pour(1, 1), 2);
        Edge gone = mixed(Shop.SOAP).then("a MOULD that went", x -> {
            x.mould(0);
            x.mould(0);
        });
        gone.denied("pour where nothing is any more", x -> x.pour(1, 0), 2);
        openOff(Shop.SOAP).then("MIXED and OFF", x -> {
            x.mix(1);
            x.mould(0);
        }).did("pour one that is OFF", x -> x.pour(1, 0));
    }

    // ---- promise 17

    // "1"
    private static void promise17NoSuch() {
        for (int batch : Bounds.outside(1, 1)) {
            poured(Shop.SOAP).denied("cut(" + batch + ", 1, 1)", x -> x.cut(batch, 1, 1), 1);
            poured(Shop.SOAP).denied("cut(" + batch + ", 0, 1): 1 ahead of 3", x -> x.cut(batch, 0, 1), 1);
            poured(Shop.SOAP).denied("cut(" + batch + ", 1, 401): 1 ahead of 3", x -> x.cut(batch, 1, 401), 1);
        }
        filled().denied("cut without a BATCH", x -> x.cut(1, 1, 1), 1);
    }

    // "A POURED BATCH is CUT"; "2"
    private static void promise17NotPoured() {
        for (int kind : KINDS) {
            Edge[] at = all(kind);
            for (int state = 0; state < at.length; state++) {
                if (state == POURED) {
                    at[state].did("cut", x -> x.cut(1, 2, 1));
                } else {
                    at[state].denied("cut", x -> x.cut(1, 2, 1), 2);
                    at[state].denied("cut into 0: 2 ahead of 3", x -> x.cut(1, 0, 1), 2);
                    at[state].denied("cut, more: 2 ahead of 3", x -> x.cut(1, 2, -1), 2);
                }
            }
        }
    }

    // "into so many pieces (1 .. 500)"; "the place has an empty MOULD again"; "3"
    private static void promise17Pieces() {
        for (int kind : KINDS) {
            Edge at = poured(kind);
            for (int pieces : Bounds.outside(1, 500)) {
                at.denied("cut into " + pieces, x -> x.cut(1, pieces, 1), 3);
            }
            for (int pieces : new int[] {1, 500}) {
                at.did("cut into " + pieces, x -> x.cut(1, pieces, 1));
                at.after("cut", x -> x.cut(1, pieces, 1), "told(1, 6)", x -> x.told(1, 6), pieces);
                at.after("cut", x -> x.cut(1, pieces, 1), "told(1, 7)", x -> x.told(1, 7), pieces);
                at.after("cut", x -> x.cut(1, pieces, 1), "place(1)", x -> x.place(1), 0);
                at.after("cut", x -> x.cut(1, pieces, 1), "told(1, 5)", x -> x.told(1, 5), -1);
                at.after("cut", x -> x.cut(1, pieces, 1), "the last piece", x -> x.piece(1, pieces - 1), 1000 / pieces);
                at.after("cut", x -> x.cut(1, pieces, 1), "one beyond", x -> x.piece(1, pieces), -1);
            }
        }
        Edge little = filled().then("1 TENTH, POURED", x -> Shop.poured(x, Shop.PLAIN, 0.1f));
        little.did("cut 1 TENTH into 500", x -> x.cut(1, 500, 0));
        little.after("cut", x -> x.cut(1, 500, 0), "the last but one", x -> x.piece(1, 498), 0);
        little.after("cut", x -> x.cut(1, 500, 0), "the last", x -> x.piece(1, 499), 1);
    }

    // "of a SOAP the days of its CURE (0 .. 400), of CANDLES the WIDTH (1 .. 200), of PLAIN ones nothing"
    private static void promise17More() {
        for (int kind : SOAPS) {
            for (int more : Bounds.outside(0, 400)) {
                poured(kind).denied("a CURE of " + more, x -> x.cut(1, 2, more), 3);
            }
            for (int more : new int[] {0, 1, 201, 400}) {
                poured(kind).did("a CURE of " + more, x -> x.cut(1, 2, more));
                poured(kind).after("cut", x -> x.cut(1, 2, more), "ready(1)", x -> x.ready(1), more);
                poured(kind).after("cut", x -> x.cut(1, 2, more), "told(1, 9)", x -> x.told(1, 9), 0);
            }
        }
        for (int kind = Shop.CANDLE; kind <= Shop.DIPPED; kind++) {
            Edge at = poured(kind);
            for (int more : Bounds.outside(1, 200)) {
                at.denied("a WIDTH of " + more, x -> x.cut(1, 2, more), 3);
            }
            for (int more : new int[] {1, 200}) {
                at.did("a WIDTH of " + more, x -> x.cut(1, 2, more));
                at.after("cut", x -> x.cut(1, 2, more), "told(1, 9)", x -> x.told(1, 9), more);
            }
        }
        for (int more : new int[] {Integer.MIN_VALUE, -1, 0, 1, 401, Integer.MAX_VALUE}) {
            poured(Shop.PLAIN).did("nothing is asked of " + more, x -> x.cut(1, 2, more));
            poured(Shop.PLAIN).after("cut", x -> x.cut(1, 2, more), "told(1, 9)", x -> x.told(1, 9), 0);
            poured(Shop.PLAIN).denied("into 0, though nothing is asked of " + more, x -> x.cut(1, 0, more), 3);
        }
    }

    // ---- promise 18

    // "A CUT TWICE is boiled again .. 1, 2"
    private static void promise18Boil() {
        filled().refused("boil without a BATCH", x -> x.boil(1), 1);
        for (int batch : Bounds.outside(1, 1)) {
            cut(Shop.TWICE).refused("boil(" + batch + ")", x -> x.boil(batch), 1);
        }
        for (int kind : KINDS) {
            Edge[] at = all(kind);
            for (int state = 0; state < at.length; state++) {
                if (kind == Shop.TWICE && state == CUT) {
                    at[state].done("boil", x -> x.boil(1), 5);
                } else {
                    at[state].refused("boil, KIND " + kind, x -> x.boil(1), 2);
                }
            }
        }
        cutOff(Shop.TWICE).done("boil one that is OFF", x -> x.boil(1), 5);
        cutOff(Shop.SOAP).refused("boil a SOAP that is OFF", x -> x.boil(1), 2);
    }

    // "its CURE begins anew from this DAY: the first day on which it may be READY"
    private static void promise18Cure() {
        for (int cure : new int[] {0, 400}) {
            Edge at = poured(Shop.TWICE).then("a CURE of " + cure, x -> x.cut(1, 2, cure));
            at.done("boil", x -> x.boil(1), cure);
            Edge later = at.then("the day behind", x -> x.day(1));
            later.done("boil", x -> x.boil(1), cure + 1);
            Edge boiled = later.then("boiled", x -> x.boil(1));
            boiled.tells("ready(1)", x -> x.ready(1), cure + 1);
            boiled.tells("told(1, 8): the day of its cutting", x -> x.told(1, 8), 0);
            Edge last = at.then("the last day", x -> Shop.wait(x, 30_000));
            last.done("boil", x -> x.boil(1), 30_000 + cure);
        }
        Edge one = cut(Shop.TWICE).then("boiled on day 4", x -> {
            x.day(4);
            x.boil(1);
        });
        one.then("day 8", x -> x.day(4)).refused("sell", x -> x.sell(1, 1, 1), 7);
        one.then("day 9", x -> x.day(5)).done("sell", x -> x.sell(1, 1, 1), 9);
    }

    // ---- promise 19

    // "1"
    private static void promise19NoSuch() {
        for (int batch : Bounds.outside(1, 1)) {
            open(Shop.SOAP).refused("with(1, " + batch + ")", x -> x.with(1, batch), 1);
            open(Shop.SOAP).refused("with(" + batch + ", 1)", x -> x.with(batch, 1), 1);
            open(Shop.SOAP).refused("with(" + batch + ", " + batch + "): 1 ahead of 2", x -> x.with(batch, batch), 1);
            cut(Shop.PLAIN).refused("with(1, " + batch + "): 1 ahead of 2", x -> x.with(1, batch), 1);
            cut(Shop.PLAIN).refused("with(" + batch + ", 1): 1 ahead of 2", x -> x.with(batch, 1), 1);
        }
    }

    // "(both SOAPS, MIXED, or both OPEN; not the same one)"; "2"
    private static void promise19NotAsWanted() {
        for (int first : KINDS) {
            for (int second : KINDS) {
                boolean soaps = isSoap(first) && isSoap(second);
                Edge open = open(first).then("two OPEN ones, " + first + " and " + second, x -> Shop.open(x, second, 1f));
                Edge mixed = mixed(first).then("two MIXED ones, " + first + " and " + second, x -> Shop.mixed(x, second, 1f));
                for (Edge at : new Edge[] {open, mixed}) {
                    if (soaps) {
                        at.done("with(1, 2)", x -> x.with(1, 2), 1010);
                        at.done("with(2, 1)", x -> x.with(2, 1), 1010);
                    } else {
                        at.refused("with(1, 2)", x -> x.with(1, 2), 2);
                    }
                    at.refused("with(1, 1)", x -> x.with(1, 1), 2);
                }
            }
        }
        for (int state = 0; state < 5; state++) {
            for (int other = 0; other < 5; other++) {
                if (state != other || state > MIXED) {
                    int second = other;
                    Edge at = all(Shop.SOAP)[state].then("STATES " + state + " and " + other, x -> inState(x, second));
                    at.refused("with(1, 2)", x -> x.with(1, 2), 2);
                }
            }
        }
    }

    /** BATCH 2, a SOAP. */
    private static void inState(Counted x, int state) {
        Shop.open(x, Shop.SOAP, 1f);
        if (state >= MIXED) {
            x.mix(2);
        }
        if (state >= POURED) {
            x.mould(2);
            x.pour(2, 2);
        }
        if (state >= CUT) {
            x.cut(2, 1, 0);
        }
        if (state > CUT) {
            x.sell(2, 1, 0);
        }
    }

    private static boolean isSoap(int kind) {
        return kind == Shop.SOAP || kind == Shop.TWICE;
    }

    // "3: it would be above 1,000,000"
    private static void promise19MostWeight() {
        Edge just = filled().then("600,000 and 400,000", x -> {
            Shop.mixed(x, Shop.SOAP, 60000f);
            Shop.mixed(x, Shop.TWICE, 40000f);
        });
        just.done("with(1, 2)", x -> x.with(1, 2), 1_000_000);
        just.done("with(2, 1)", x -> x.with(2, 1), 1_000_000);
        Edge above = filled().then("600,000 and 400,001", x -> {
            x.lot(0, 1f, 0, 0);
            Shop.mixed(x, Shop.SOAP, 60000f);
            Shop.mixed(x, Shop.TWICE, 40000.1f);
        });
        above.refused("with(1, 2)", x -> x.with(1, 2), 3);
        above.refused("with(2, 1)", x -> x.with(2, 1), 3);
        above.refused("with(1, 1): 2 ahead of 3", x -> x.with(1, 1), 2);
        Edge unlike = filled().then("600,000 in a PLAIN one, 600,000 in a SOAP", x -> {
            x.lot(0, 100000f, 0, 0);
            Shop.mixed(x, Shop.PLAIN, 60000f);
            Shop.mixed(x, Shop.SOAP, 60000f);
        });
        unlike.refused("with(1, 2): 2 ahead of 3", x -> x.with(1, 2), 2);
        unlike.refused("with(2, 1): 2 ahead of 3", x -> x.with(2, 1), 2);
    }

    // "the second is GONE (nothing is in it: weight, N, P and coins are the first one's)"
    private static void promise19Empty() {
        Edge at = openOff(Shop.SOAP).then("two OPEN ones", x -> Shop.open(x, Shop.SOAP, 50f));
        Edge both = at.then("put together", x -> x.with(2, 1));
        both.tells("told(1, 1)", x -> x.told(1, 1), 4);
        both.tells("told(1, 2)", x -> x.told(1, 2), 0);
        both.tells("told(1, 3)", x -> x.told(1, 3), 0);
        both.tells("check(1, 0, 0, 0)", x -> x.check(1, 0, 0, 0), 0);
        both.tells("told(2, 2)", x -> x.told(2, 2), 2500);
        both.tells("told(2, 3)", x -> x.told(2, 3), 2500);
        both.tells("N", x -> x.even(2, 1), 1_500_000);
        both.tells("N - P", x -> x.even(2, 0), -3_500_000);
        both.tells("count(8)", x -> x.count(8), 2500);
        both.refused("with(2, 1) again", x -> x.with(2, 1), 2);
        Edge lye = openOff(Shop.SOAP).then("LYE in both", x -> {
            Shop.open(x, Shop.SOAP, 50f);
            x.weigh(2, LYE, 1f);
            x.with(2, 1);
        });
        lye.tells("check(2, 2510, N, P)", x -> x.check(2, 2510, 1_500_000, 5_050_000), 0);
        Edge empty = filled().then("two empty ones", x -> {
            x.batch(Shop.SOAP, 0);
            x.batch(Shop.TWICE, 0);
        });
        empty.done("with(1, 2)", x -> x.with(1, 2), 0);
        empty.after("with", x -> x.with(1, 2), "told(2, 1)", x -> x.told(2, 1), 4);
    }

    // ---- promise 20

    // "1"
    private static void promise20NoSuch() {
        filled().refused("sell without a BATCH", x -> x.sell(1, 1, 1), 1);
        for (int batch : Bounds.outside(1, 1)) {
            cut(Shop.PLAIN).refused("sell(" + batch + ", 1, 1)", x -> x.sell(batch, 1, 1), 1);
            cut(Shop.PLAIN).refused("sell(" + batch + ", 0, 1): 1 ahead of 3", x -> x.sell(batch, 0, 1), 1);
            cut(Shop.PLAIN).refused("sell(" + batch + ", 99, 1): 1 ahead of 6", x -> x.sell(batch, 99, 1), 1);
        }
    }

    // "2"
    private static void promise20NotCut() {
        for (int kind : KINDS) {
            for (int state = 0; state < 5; state++) {
                Edge at = all(kind)[state];
                if (state != CUT) {
                    at.refused("sell", x -> x.sell(1, 1, 1), 2);
                    at.refused("sell 0: 2 ahead of 3", x -> x.sell(1, 0, 1), 2);
                    at.refused("sell for -1: 2 ahead of 3", x -> x.sell(1, 1, -1), 2);
                    at.refused("sell MAX: 2 ahead of 6", x -> x.sell(1, Integer.MAX_VALUE, 1), 2);
                }
            }
        }
        openOff(Shop.SOAP).refused("sell one that is OFF and OPEN: 2 ahead of 7", x -> x.sell(1, 1, 1), 2);
    }

    // "for coins (0 .. 1,000,000)"; "3: n is below 1, coins"
    private static void promise20Bounds() {
        Edge at = cut(Shop.CANDLE);
        for (int n : new int[] {Integer.MIN_VALUE, -1, 0}) {
            at.refused("sell " + n, x -> x.sell(1, n, 1), 3);
            cut(Shop.SOAP).refused("sell " + n + ": 3 ahead of 7", x -> x.sell(1, n, 1), 3);
        }
        for (int coins : Bounds.outside(0, 1_000_000)) {
            at.refused("sell for " + coins, x -> x.sell(1, 1, coins), 3);
            at.refused("sell 11 for " + coins + ": 3 ahead of 6", x -> x.sell(1, 11, coins), 3);
            cut(Shop.SOAP).refused("sell for " + coins + ": 3 ahead of 7", x -> x.sell(1, 1, coins), 3);
        }
        for (int coins : new int[] {0, 1_000_000}) {
            at.done("sell for " + coins, x -> x.sell(1, 1, coins), 9);
            at.after("sell", x -> x.sell(1, 1, coins), "told(1, 10)", x -> x.told(1, 10), coins);
            at.after("sell", x -> x.sell(1, 1, coins), "count(10)", x -> x.count(10), coins);
        }
    }

    // "how many are left; it is GONE with the last"; "6: there are not so many"
    private static void promise20NotSoMany() {
        for (int kind : NO_SOAPS) {
            Edge ten = cut(kind);
            ten.refused("sell 11 of 10", x -> x.sell(1, 11, 1), 6);
            ten.refused("sell 501 of 10", x -> x.sell(1, 501, 1), 6);
            ten.refused("sell MAX of 10", x -> x.sell(1, Integer.MAX_VALUE, 1), 6);
            ten.done("sell 10", x -> x.sell(1, 10, 1), 0);
            Edge one = ten.then("one piece is left", x -> x.sell(1, 9, 1));
            one.tells("told(1, 1)", x -> x.told(1, 1), CUT);
            one.refused("sell 2", x -> x.sell(1, 2, 1), 6);
            one.refused("sell MAX", x -> x.sell(1, Integer.MAX_VALUE, 1), 6);
            one.done("sell the last", x -> x.sell(1, 1, 1), 0);
            Edge gone = one.then("GONE", x -> x.sell(1, 1, 1));
            gone.tells("told(1, 1)", x -> x.told(1, 1), 4);
            gone.tells("told(1, 7)", x -> x.told(1, 7), 0);
            gone.refused("sell 1", x -> x.sell(1, 1, 1), 2);
        }
        Edge twice = cut(Shop.PLAIN).then("sold twice", x -> {
            x.sell(1, 1, 5);
            x.sell(1, 1, 1_000_000);
        });
        twice.tells("told(1, 10)", x -> x.told(1, 10), 1_000_005);
        twice.tells("count(10)", x -> x.count(10), 1_000_005);
        twice.tells("told(1, 7)", x -> x.told(1, 7), 8);
        Edge most = poured(Shop.PLAIN).then("500 pieces", x -> x.cut(1, 500, 0));
        most.done("sell 500", x -> x.sell(1, 500, 1), 0);
        most.refused("sell 501", x -> x.sell(1, 501, 1), 6);
    }

    // "7"; "6: there are not so many; 7"
    private static void promise20NotReady() {
        for (int kind : SOAPS) {
            Edge early = cut(kind);
            early.refused("sell 10", x -> x.sell(1, 10, 1), 7);
            early.refused("sell 11: 6 ahead of 7", x -> x.sell(1, 11, 1), 6);
            Edge off = cutOff(kind).then("OFF, its CURE long past", x -> x.day(1000));
            off.refused("sell 1", x -> x.sell(1, 1, 1), 7);
            off.refused("sell 11: 6 ahead of 7", x -> x.sell(1, 11, 1), 6);
            off.refused("sell 0: 3 ahead of 7", x -> x.sell(1, 0, 1), 3);
            Edge right = off.then("put right", x -> x.weigh(1, 0, 455.6f));
            right.refused("sell 1", x -> x.sell(1, 1, 1), 7);
            right.then("4 days on", x -> x.day(4)).refused("sell 1", x -> x.sell(1, 1, 1), 7);
            right.then("5 days on", x -> x.day(5)).done("sell 1", x -> x.sell(1, 1, 1), 9);
        }
        for (int kind : NO_SOAPS) {
            cut(kind).done("sell as they are CUT", x -> x.sell(1, 1, 1), 9);
        }
    }

    // "A SOAP is READY at the END of its CURE: so many days behind .. whichever is latest"
    private static void promise20Cure() {
        for (int kind : SOAPS) {
            for (int cure : new int[] {0, 1, 400}) {
                Edge at = poured(kind).then("a CURE of " + cure, x -> x.cut(1, 10, cure));
                if (cure > 0) {
                    at.then("a day ahead of its END", x -> Shop.wait(x, cure - 1)).refused("sell", x -> x.sell(1, 1, 1), 7);
                }
                at.then("its END", x -> Shop.wait(x, cure)).done("sell", x -> x.sell(1, 1, 1), 9);
            }
            Edge slow = open(kind).then("CUT 3 days behind its weighing", x -> {
                x.day(1);
                x.mix(1);
                x.day(1);
                x.mould(0);
                x.pour(1, 0);
                x.day(1);
                x.cut(1, 10, 2);
            });
            slow.then("day 4", x -> x.day(1)).refused("sell", x -> x.sell(1, 1, 1), 7);
            slow.then("day 5", x -> x.day(2)).done("sell", x -> x.sell(1, 1, 1), 9);
        }
    }
}
