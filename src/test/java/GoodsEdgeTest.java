/** The edges that promises 1 to 11 name: the DAY, FATS, the SCALE, RECIPES, LOTS. */
public final class GoodsEdgeTest {
    private static final int LYE = Shop.LYE;
    private static final int[] NO_FATS_OF_TWO = {Integer.MIN_VALUE, -1, 2, 59, LYE, 61, Integer.MAX_VALUE};
    private static final int[] NO_GOODS_OF_TWO = {Integer.MIN_VALUE, -1, 2, 59, 61, Integer.MAX_VALUE};

    public static void main(String[] args) {
        promise1NothingYet();
        promise2DaysOfOneCall();
        promise2LastDay();
        promise3Numbers();
        promise3Sixty();
        promise3ZeroAtFirst();
        promise4NoSuchFat();
        promise4Value();
        promise4NoSuchNumber();
        promise5Tear();
        promise6Scale();
        promise7Spare();
        promise7Hundred();
        promise8NoSuch();
        promise8Parts();
        promise8HundredOfOneFat();
        promise8NinthFat();
        promise9Bounds();
        promise9NoNeed();
        promise9Cut();
        promise10NoSuchGood();
        promise10Price();
        promise10Strength();
        promise10Read();
        promise10Rest();
        promise10Broken();
        promise10FourHundred();
        promise11NoSuchGood();
        promise11Read();
        promise11NotSoMuch();
        promise11OldestFirst();
        Due.end();
    }

    private static Edge fresh() {
        return Edge.at("a new object", x -> { });
    }

    private static Edge filled() {
        return Edge.at("GOODS", Shop::fill);
    }

    // "Nothing yet; the SCALE works."
    private static void promise1NothingYet() {
        Edge at = fresh();
        for (int what = 0; what <= 12; what++) {
            int w = what;
            at.tells("count(" + w + ")", x -> x.count(w), w == 12 ? 2 : 0);
        }
        for (int none : new int[] {Integer.MIN_VALUE, -1, 0, 1, LYE, Integer.MAX_VALUE}) {
            at.tells("lye(" + none + ", ..)", x -> x.lye(none, 1, 1), -1);
            at.tells("told(" + none + ", 0)", x -> x.told(none, 0), -1);
            at.tells("even(" + none + ", 0)", x -> x.even(none, 0), -1);
            at.tells("check(" + none + ", 0, 0, 0)", x -> x.check(none, 0, 0, 0), -1);
            at.tells("left(" + none + ", 0)", x -> x.left(none, 0), -1);
            at.tells("place(" + none + ")", x -> x.place(none), -1);
            at.tells("stock(" + none + ")", x -> x.stock(none), none == LYE ? 0 : -1);
            at.tells("piece(" + none + ", 0)", x -> x.piece(none, 0), -1);
            at.tells("ready(" + none + ")", x -> x.ready(none), -1);
            at.tells("more(" + none + ", 0)", x -> x.more(none, 0), -1);
            at.tells("burns(" + none + ", 0)", x -> x.burns(none, 0), -1);
        }
        at.tells("hours(0, 1, 0)", x -> x.hours(0, 1, 0), -1);
        at.tells("save(0, 0)", x -> x.save(0, 0), -1);
        Due.is("status() of a new object", new Counted().status(), 0);
        at.denied("back()", x -> x.back(), 2);
        at.done("lot(60, 0.1, 0, 1)", x -> x.lot(LYE, 0.1f, 0, 1), 1);
    }

    // "The DAY is n more (1 .. 1,000; 3)"
    private static void promise2DaysOfOneCall() {
        for (int n : Bounds.outside(1, 1000)) {
            fresh().refused("day(" + n + ")", x -> x.day(n), 3);
        }
        fresh().done("day(1)", x -> x.day(1), 1);
        fresh().done("day(1000)", x -> x.day(1000), 1000);
        fresh().after("day(1000)", x -> x.day(1000), "count(0)", x -> x.count(0), 1000);
    }

    // "3 also, if it would be above 30,000"
    private static void promise2LastDay() {
        Edge thousandAhead = Edge.at("day 29,000", x -> Shop.wait(x, 29_000));
        thousandAhead.done("day(1000)", x -> x.day(1000), 30_000);
        Edge nearer = Edge.at("day 29,001", x -> Shop.wait(x, 29_001));
        nearer.refused("day(1000)", x -> x.day(1000), 3);
        nearer.done("day(999)", x -> x.day(999), 30_000);
        Edge last = Edge.at("day 30,000", x -> Shop.wait(x, 30_000));
        for (int n : new int[] {1, 1000, 1001, Integer.MAX_VALUE, 0, -1, Integer.MIN_VALUE}) {
            last.refused("day(" + n + ")", x -> x.day(n), 3);
        }
    }

    // "A FAT whose ROW has so many numbers (0 .. 5) .. 3"
    private static void promise3Numbers() {
        for (int numbers : Bounds.outside(0, 5)) {
            fresh().refused("fat(" + numbers + ")", x -> x.fat(numbers), 3);
        }
        for (int numbers = 0; numbers <= 5; numbers++) {
            int n = numbers;
            fresh().done("fat(" + n + ")", x -> x.fat(n), 0);
            Edge at = fresh().then("a ROW of " + n, x -> x.fat(n));
            for (int i = 0; i < n; i++) {
                int number = i;
                at.did("row(0, " + i + ", 1)", x -> x.row(0, number, 1));
            }
            at.denied("row(0, " + n + ", 1)", x -> x.row(0, n, 1), 5);
        }
    }

    // "At most 60 FATS", "FATS 0, 1, .. (60 at most), LYE is 60"; "8"
    private static void promise3Sixty() {
        Edge nearly = Edge.at("59 FATS", x -> fats(x, 59));
        nearly.done("fat(5)", x -> x.fat(5), 59);
        nearly.refused("lot of FAT 59", x -> x.lot(59, 1f, 1, 1), 1);
        Edge full = Edge.at("60 FATS", x -> fats(x, 60));
        full.refused("fat(0)", x -> x.fat(0), 8);
        full.refused("fat(5)", x -> x.fat(5), 8);
        for (int numbers : Bounds.outside(0, 5)) {
            full.refused("fat(" + numbers + "): 3 ahead of 8", x -> x.fat(numbers), 3);
        }
        full.tells("count(1)", x -> x.count(1), 60);
        full.did("row(59, 0, 7)", x -> x.row(59, 0, 7));
        full.denied("row(60, 0, 7): LYE is no FAT", x -> x.row(LYE, 0, 7), 1);
        full.done("lot of FAT 59", x -> x.lot(59, 1f, 1, 0), 1);
        full.refused("lot of LYE: its STRENGTH counts", x -> x.lot(LYE, 1f, 1, 0), 3);
        full.refused("lot of 61", x -> x.lot(61, 1f, 1, 1), 1);
        full.then("a LOT of LYE", x -> x.lot(LYE, 1f, 1, 1)).tells("stock(59)", x -> x.stock(59), 0);
    }

    private static void fats(Counted x, int n) {
        for (int i = 0; i < n; i++) {
            x.fat(1);
        }
    }

    // "0 at first"
    private static void promise3ZeroAtFirst() {
        Edge at = Edge.at("a FAT as it comes", x -> {
            x.fat(1);
            x.recipe(0);
            x.part(0, 0, 1);
        });
        at.tells("lye: a NEED of 0 is one", x -> x.lye(0, 1_000_000, 1), 0);
    }

    // "1"
    private static void promise4NoSuchFat() {
        fresh().denied("row(0, 0, 1)", x -> x.row(0, 0, 1), 1);
        for (int fat : NO_FATS_OF_TWO) {
            filled().denied("row(" + fat + ", 0, 1)", x -> x.row(fat, 0, 1), 1);
            filled().denied("row(" + fat + ", 0, 10000): 1 ahead of 3", x -> x.row(fat, 0, 10_000), 1);
            filled().denied("row(" + fat + ", 9, 1): 1 ahead of 5", x -> x.row(fat, 9, 1), 1);
        }
    }

    // "v (0 .. 9,999)"; "3: v"
    private static void promise4Value() {
        Edge at = Edge.at("a ROW of 3", x -> x.fat(3));
        for (int v : Bounds.outside(0, 9999)) {
            at.denied("row(0, 0, " + v + ")", x -> x.row(0, 0, v), 3);
            at.denied("row(0, 3, " + v + "): 3 ahead of 5", x -> x.row(0, 3, v), 3);
            at.then("a torn ROW", x -> x.tear(0)).denied("row(0, 0, " + v + "): 3 ahead of 5", x -> x.row(0, 0, v), 3);
        }
        Edge byNeed = at.then("its NEED in a RECIPE", x -> {
            x.recipe(0);
            x.part(0, 0, 1);
        });
        for (int v : new int[] {0, 1, 9998, 9999}) {
            at.did("row(0, 0, " + v + ")", x -> x.row(0, 0, v));
            byNeed.after("row(0, 0, " + v + ")", x -> x.row(0, 0, v), "lye", x -> x.lye(0, 10_000, 1000), v);
        }
    }

    // "5: the ROW is missing, or has no such number"; "a ROW may be missing or end ahead"
    private static void promise4NoSuchNumber() {
        for (int length = 0; length <= 5; length++) {
            int n = length;
            Edge at = Edge.at("a ROW of " + n, x -> x.fat(n));
            for (int i : Bounds.outside(0, n - 1)) {
                at.denied("row(0, " + i + ", 1)", x -> x.row(0, i, 1), 5);
            }
            Edge torn = at.then("a torn ROW of " + n, x -> x.tear(0));
            for (int i = -1; i <= 5; i++) {
                int number = i;
                torn.denied("row(0, " + i + ", 1)", x -> x.row(0, number, 1), 5);
            }
        }
    }

    // "A FAT's ROW is missing from now on. 1, 5."
    private static void promise5Tear() {
        fresh().denied("tear(0)", x -> x.tear(0), 1);
        for (int fat : NO_FATS_OF_TWO) {
            filled().denied("tear(" + fat + ")", x -> x.tear(fat), 1);
        }
        filled().did("tear(0)", x -> x.tear(0));
        filled().did("tear(1), a ROW of no numbers", x -> x.tear(1));
        Edge torn = filled().then("torn ROWS", x -> {
            x.part(0, 0, 1);
            x.tear(0);
            x.tear(1);
        });
        torn.denied("tear(0)", x -> x.tear(0), 5);
        torn.denied("tear(1)", x -> x.tear(1), 5);
        torn.tells("lye without NEED", x -> x.lye(0, 1000, 1000), -1);
        torn.tells("count(1)", x -> x.count(1), 2);
        torn.tells("stock(0)", x -> x.stock(0), 1_000_000);
    }

    // "The SCALE works, or is broken."; "A SCALE that is broken tells no number."
    private static void promise6Scale() {
        Edge broken = filled().then("a broken SCALE", x -> {
            x.batch(Shop.SOAP, 0);
            x.trial(1, 7);
            x.scale(false);
        });
        broken.refused("lot", x -> x.lot(0, 1f, 1, 1), 4);
        broken.refused("spill", x -> x.spill(0, 1f), 4);
        broken.refused("weigh", x -> x.weigh(1, 0, 1f), 4);
        broken.refused("hour", x -> x.hour(1, 1f), 4);
        Edge again = broken.then("a SCALE broken twice", x -> x.scale(false));
        again.refused("lot", x -> x.lot(0, 1f, 1, 1), 4);
        Edge mended = again.then("a SCALE that works again", x -> x.scale(true));
        mended.done("lot", x -> x.lot(0, 1f, 1, 1), 4);
        mended.done("spill", x -> x.spill(0, 1f), 10);
        mended.done("weigh", x -> x.weigh(1, 0, 1f), 10);
        mended.done("hour", x -> x.hour(1, 1f), 1);
        for (boolean works : new boolean[] {false, true}) {
            fresh().done("scale(" + works + ")", x -> {
                x.scale(works);
                return 0;
            }, 0);
        }
    }

    // "A RECIPE with a SPARE (0 .. 50): its number. 3"
    private static void promise7Spare() {
        for (int spare : Bounds.outside(0, 50)) {
            fresh().refused("recipe(" + spare + ")", x -> x.recipe(spare), 3);
        }
        fresh().done("recipe(0)", x -> x.recipe(0), 0);
        fresh().done("recipe(50)", x -> x.recipe(50), 0);
    }

    // "100 RECIPES"; "8"
    private static void promise7Hundred() {
        Edge nearly = Edge.at("99 RECIPES", x -> recipes(x, 99));
        nearly.done("recipe(50)", x -> x.recipe(50), 99);
        Edge full = Edge.at("100 RECIPES", x -> recipes(x, 100));
        full.refused("recipe(0)", x -> x.recipe(0), 8);
        full.refused("recipe(50)", x -> x.recipe(50), 8);
        for (int spare : Bounds.outside(0, 50)) {
            full.refused("recipe(" + spare + "): 3 ahead of 8", x -> x.recipe(spare), 3);
        }
        full.tells("count(2)", x -> x.count(2), 100);
        full.done("batch by RECIPE 99", x -> x.batch(0, 99), 1);
        full.refused("batch by RECIPE 100", x -> x.batch(0, 100), 1);
    }

    private static void recipes(Counted x, int n) {
        for (int i = 0; i < n; i++) {
            x.recipe(i % 51);
        }
    }

    // "1"
    private static void promise8NoSuch() {
        for (int recipe : Bounds.outside(0, 0)) {
            filled().refused("part(" + recipe + ", 0, 1)", x -> x.part(recipe, 0, 1), 1);
            filled().refused("part(" + recipe + ", 0, 0): 1 ahead of 3", x -> x.part(recipe, 0, 0), 1);
            filled().refused("part(" + recipe + ", 7, 1)", x -> x.part(recipe, 7, 1), 1);
        }
        Edge eight = Edge.at("8 FATS in a RECIPE", x -> parts(x, 8, 8));
        for (int fat : NO_FATS_OF_TWO) {
            filled().refused("part(0, " + fat + ", 1)", x -> x.part(0, fat, 1), 1);
            filled().refused("part(0, " + fat + ", 101): 1 ahead of 3", x -> x.part(0, fat, 101), 1);
        }
        eight.refused("part(0, 8, 1) of no such FAT: 1 ahead of 8", x -> x.part(0, 8, 1), 1);
        eight.refused("part(0, -1, 101) of no such FAT: 1 ahead of 3 and 8", x -> x.part(0, -1, 101), 1);
    }

    // "A PART of a FAT (1 .. 100 ..)"; "3: parts"
    private static void promise8Parts() {
        for (int parts : Bounds.outside(1, 100)) {
            filled().refused("part(0, 0, " + parts + ")", x -> x.part(0, 0, parts), 3);
        }
        filled().done("part(0, 0, 1)", x -> x.part(0, 0, 1), 1);
        filled().done("part(0, 0, 100)", x -> x.part(0, 0, 100), 100);
        filled().done("part(0, 1, 1) of a FAT without NEED", x -> x.part(0, 1, 1), 1);
    }

    // "a FAT told again: together"; "or one FAT would have more than 100"
    private static void promise8HundredOfOneFat() {
        Edge at99 = filled().then("99 PARTS of one FAT", x -> x.part(0, 0, 99));
        at99.done("part(0, 0, 1)", x -> x.part(0, 0, 1), 100);
        at99.refused("part(0, 0, 2)", x -> x.part(0, 0, 2), 3);
        Edge at100 = filled().then("100 PARTS of one FAT", x -> x.part(0, 0, 100));
        for (int parts : new int[] {1, 100, 101, Integer.MAX_VALUE, 0, -1, -100, Integer.MIN_VALUE}) {
            at100.refused("part(0, 0, " + parts + ")", x -> x.part(0, 0, parts), 3);
        }
        at100.done("100 of another FAT", x -> x.part(0, 1, 100), 200);
        Edge full = Edge.at("8 FATS in a RECIPE", x -> parts(x, 9, 8));
        full.done("the eighth again", x -> x.part(0, 7, 99), 107);
        full.done("the first again", x -> x.part(0, 0, 99), 107);
        full.refused("the eighth again, too many", x -> x.part(0, 7, 100), 3);
        full.then("all FATS 100", x -> {
            for (int fat = 1; fat < 8; fat++) {
                x.part(0, fat, 99);
            }
        }).done("the most PARTS of all", x -> x.part(0, 0, 99), 800);
    }

    // "PARTS of FATS (8 at most)"; "8: a ninth FAT"
    private static void promise8NinthFat() {
        Edge seven = Edge.at("7 FATS in a RECIPE", x -> parts(x, 9, 7));
        seven.done("an eighth", x -> x.part(0, 7, 100), 107);
        Edge eight = Edge.at("8 FATS in a RECIPE", x -> parts(x, 9, 8));
        eight.refused("a ninth", x -> x.part(0, 8, 1), 8);
        eight.refused("a ninth", x -> x.part(0, 8, 100), 8);
        for (int parts : Bounds.outside(1, 100)) {
            eight.refused("a ninth, " + parts + ": 3 ahead of 8", x -> x.part(0, 8, parts), 3);
        }
        eight.then("another RECIPE", x -> x.recipe(0)).done("part(1, 8, 1)", x -> x.part(1, 8, 1), 1);
    }

    /** FATS with NEED 1,000, and one PART of each of the first ones in RECIPE 0. */
    private static void parts(Counted x, int fats, int inRecipe) {
        x.recipe(0);
        for (int fat = 0; fat < fats; fat++) {
            x.fat(1);
            x.row(fat, 0, 1000);
            if (fat < inRecipe) {
                x.part(0, fat, 1);
            }
        }
    }

    // "for a weight of FATS (1 .. 1,000,000) at a STRENGTH (1 .. 1,000). NONE: a number is out of its bounds, .."
    private static void promise9Bounds() {
        Edge at = filled().then("a RECIPE with PARTS", x -> x.part(0, 0, 1));
        for (int recipe : Bounds.outside(0, 0)) {
            at.tells("lye(" + recipe + ", 1000, 100)", x -> x.lye(recipe, 1000, 100), -1);
        }
        for (int weight : Bounds.outside(1, 1_000_000)) {
            at.tells("lye(0, " + weight + ", 100)", x -> x.lye(0, weight, 100), -1);
        }
        for (int strength : Bounds.outside(1, 1000)) {
            at.tells("lye(0, 1000, " + strength + ")", x -> x.lye(0, 1000, strength), -1);
        }
        at.tells("lye(0, 1, 1000)", x -> x.lye(0, 1, 1000), 0);
        at.tells("lye(0, 1, 1)", x -> x.lye(0, 1, 1), 90);
        at.tells("lye(0, 1000000, 1000)", x -> x.lye(0, 1_000_000, 1000), 90_000);
        at.tells("lye(0, 1000000, 1)", x -> x.lye(0, 1_000_000, 1), 90_000_000);
    }

    // "(none, if it has no PARTS, or one of its FATS has no NEED)"; "or it has no NEED"
    private static void promise9NoNeed() {
        filled().tells("lye without PARTS", x -> x.lye(0, 1000, 100), -1);
        Edge one = filled().then("a FAT with NEED", x -> x.part(0, 0, 100));
        one.tells("lye", x -> x.lye(0, 1000, 100), 900);
        Edge two = one.then("one FAT has no NEED", x -> x.part(0, 1, 1));
        two.tells("lye", x -> x.lye(0, 1000, 100), -1);
        Edge ahead = filled().then("the first FAT has no NEED", x -> {
            x.part(0, 1, 1);
            x.part(0, 0, 1);
        });
        ahead.tells("lye", x -> x.lye(0, 1000, 100), -1);
        one.then("its ROW is torn", x -> x.tear(0)).tells("lye", x -> x.lye(0, 1000, 100), -1);
        one.then("its NEED is 0", x -> x.row(0, 0, 0)).tells("lye", x -> x.lye(0, 1000, 100), 0);
        one.then("another ROW is torn", x -> x.tear(1)).tells("lye", x -> x.lye(0, 1000, 100), 900);
    }

    // "by 10,000 times 100 times s, cut"; the greatest numbers of all
    private static void promise9Cut() {
        Edge at = filled().then("SPARE 10, NEED 1,000", x -> x.part(0, 0, 1));
        at.tells("lye(0, 11, 1000), 0.99", x -> x.lye(0, 11, 1000), 0);
        at.tells("lye(0, 12, 1000), 1.08", x -> x.lye(0, 12, 1000), 1);
        Edge most = Edge.at("the greatest NEED", x -> {
            parts(x, 8, 8);
            for (int fat = 0; fat < 8; fat++) {
                x.part(0, fat, 99);
                x.row(fat, 0, 9999);
            }
        });
        most.tells("lye(0, 1000000, 1)", x -> x.lye(0, 1_000_000, 1), 999_900_000);
        most.tells("lye(0, 1, 1000)", x -> x.lye(0, 1, 1000), 0);
        Edge spare = Edge.at("SPARE 50", x -> {
            x.fat(1);
            x.row(0, 0, 9999);
            x.recipe(50);
            x.part(0, 0, 1);
        });
        spare.tells("lye(0, 1000000, 1)", x -> x.lye(0, 1_000_000, 1), 499_950_000);
    }

    // "1"
    private static void promise10NoSuchGood() {
        fresh().refused("lot of a FAT", x -> x.lot(0, 1f, 1, 1), 1);
        Edge full = filled().then("400 LOTS", x -> lots(x, 397));
        for (int good : NO_GOODS_OF_TWO) {
            filled().refused("lot(" + good + ", ..)", x -> x.lot(good, 1f, 1, 1), 1);
            filled().refused("lot(" + good + ", 0, ..): 1 ahead of 3", x -> x.lot(good, 0f, 1, 1), 1);
            filled().refused("lot(" + good + ", .., -1, 1): 1 ahead of 3", x -> x.lot(good, 1f, -1, 1), 1);
            filled().refused("lot(" + good + ", NaN, ..): 1 ahead of 4", x -> x.lot(good, Float.NaN, 1, 1), 1);
        }
        full.refused("lot(2, ..): 1 ahead of 8", x -> x.lot(2, 1f, 1, 1), 1);
    }

    // "3: .. price"; "prices 0 .. 1,000,000"
    private static void promise10Price() {
        for (int price : Bounds.outside(0, 1_000_000)) {
            filled().refused("price " + price, x -> x.lot(0, 1f, price, 0), 3);
            filled().refused("price " + price + " of LYE", x -> x.lot(LYE, 1f, price, 5), 3);
        }
        for (int price : new int[] {0, 1_000_000}) {
            filled().done("price " + price, x -> x.lot(0, 1f, price, 0), 4);
            filled().after("price " + price, x -> x.lot(0, 1f, price, 0), "left(4, 2)", x -> x.left(4, 2), price);
            filled().after("price " + price, x -> x.lot(0, 1f, price, 0), "count(6)", x -> x.count(6), 3_000_000 + price);
        }
    }

    // "(its STRENGTH counts for LYE alone)"; "LYE's strength is not 1 .. 1,000"
    private static void promise10Strength() {
        for (int strength : Bounds.outside(1, 1000)) {
            filled().refused("STRENGTH " + strength, x -> x.lot(LYE, 1f, 1, strength), 3);
            filled().done("a FAT's STRENGTH " + strength, x -> x.lot(0, 1f, 1, strength), 4);
            filled().after("a FAT's STRENGTH", x -> x.lot(0, 1f, 1, strength), "left(4, 3)", x -> x.left(4, 3), 0);
        }
        for (int strength : new int[] {1, 1000}) {
            filled().done("STRENGTH " + strength, x -> x.lot(LYE, 1f, 1, strength), 4);
            filled().after("STRENGTH", x -> x.lot(LYE, 1f, 1, strength), "left(4, 3)", x -> x.left(4, 3), strength);
            filled().after("a FAT's STRENGTH", x -> x.lot(0, 1f, 1, strength), "left(4, 3)", x -> x.left(4, 3), 0);
        }
    }

    // "3: what is read is not 1 .. 1,000,000"; "above them by a part behind the point alone: in"
    private static void promise10Read() {
        for (float grams : Bounds.gramsOutside()) {
            fresh().refused(grams + " g", x -> x.lot(LYE, grams, 1, 1), 3);
        }
        float[] in = {0.1f, Math.nextUp(0.1f), 0.15f, 0.7f, 0.29f, 99999.9f, 100000f, Math.nextUp(100000f), Bounds.MOST_GRAMS};
        int[] tenths = {1, 1, 1, 7, 2, 999_999, 1_000_000, 1_000_000, 1_000_000};
        for (int i = 0; i < in.length; i++) {
            float grams = in[i];
            fresh().done(grams + " g", x -> x.lot(LYE, grams, 1, 1), 1);
            fresh().after(grams + " g", x -> x.lot(LYE, grams, 1, 1), "left(1, 1)", x -> x.left(1, 1), tenths[i]);
        }
    }

    // "the REST is the part behind the point times 1,000 (likewise), cut"
    private static void promise10Rest() {
        float[] in = {0.1f, Math.nextUp(0.1f), 0.15f, 0.175f, 0.1051f, 0.113f, 12.3f, 0.7f, Math.nextUp(100000f), Bounds.MOST_GRAMS};
        int[] rests = {0, 0, 500, 750, 51, 130, 0, 0, 62, 937};
        for (int i = 0; i < in.length; i++) {
            float grams = in[i];
            fresh().after(grams + " g", x -> x.lot(LYE, grams, 1, 1), "count(11)", x -> x.count(11), rests[i]);
        }
    }

    // "A broken SCALE, or grams that are no number, reads nothing: then 4, and of what is read 3 does not ask."
    private static void promise10Broken() {
        fresh().refused("NaN", x -> x.lot(LYE, Float.NaN, 1, 1), 4);
        fresh().refused("another NaN", x -> x.lot(LYE, Float.intBitsToFloat(0xffc00001), 1, 1), 4);
        Edge broken = fresh().then("a broken SCALE", x -> x.scale(false));
        for (float grams : Bounds.gramsOutside()) {
            broken.refused(grams + " g: 3 does not ask", x -> x.lot(LYE, grams, 1, 1), 4);
        }
        broken.refused("NaN", x -> x.lot(LYE, Float.NaN, 1, 1), 4);
        for (int price : Bounds.outside(0, 1_000_000)) {
            broken.refused("price " + price + ": 3 ahead of 4", x -> x.lot(LYE, 1f, price, 1), 3);
            fresh().refused("NaN, price " + price + ": 3 ahead of 4", x -> x.lot(LYE, Float.NaN, price, 1), 3);
        }
        for (int strength : Bounds.outside(1, 1000)) {
            broken.refused("STRENGTH " + strength + ": 3 ahead of 4", x -> x.lot(LYE, 1f, 1, strength), 3);
        }
        broken.then("a FAT", x -> x.fat(0)).refused("a FAT's STRENGTH", x -> x.lot(0, 1f, 1, -1), 4);
    }

    // "400 LOTS"; "8"
    private static void promise10FourHundred() {
        Edge nearly = Edge.at("399 LOTS", x -> lots(x, 399));
        nearly.done("the 400th", x -> x.lot(LYE, 1f, 1, 1), 400);
        Edge full = Edge.at("400 LOTS", x -> lots(x, 400));
        full.refused("a 401st", x -> x.lot(LYE, 1f, 1, 1), 8);
        full.refused("a 401st, of 0 g: 3 ahead of 8", x -> x.lot(LYE, 0f, 1, 1), 3);
        full.refused("a 401st, price: 3 ahead of 8", x -> x.lot(LYE, 1f, -1, 1), 3);
        full.refused("a 401st, STRENGTH: 3 ahead of 8", x -> x.lot(LYE, 1f, 1, 1001), 3);
        full.refused("a 401st, NaN: 4 ahead of 8", x -> x.lot(LYE, Float.NaN, 1, 1), 4);
        full.tells("left(400, 4)", x -> x.left(400, 4), 0);
        full.tells("left(401, 4)", x -> x.left(401, 4), -1);
        full.tells("stock(60)", x -> x.stock(LYE), 400_000_000);
        full.tells("count(6)", x -> x.count(6), 400_000_000);
        full.tells("count(7)", x -> x.count(7), 400_000_000);
        full.then("all is spilt of one", x -> x.spill(LYE, 100000f))
                .refused("an empty LOT gives no room", x -> x.lot(LYE, 1f, 1, 1), 8);
    }

    /** As many LOTS of LYE, each with all that one may have. */
    private static void lots(Counted x, int n) {
        for (int i = 0; i < n; i++) {
            x.lot(LYE, 100000f, 1_000_000, 1000);
        }
    }

    // "1"
    private static void promise11NoSuchGood() {
        fresh().refused("spill of a FAT", x -> x.spill(0, 1f), 1);
        for (int good : NO_GOODS_OF_TWO) {
            filled().refused("spill(" + good + ", 1)", x -> x.spill(good, 1f), 1);
            filled().refused("spill(" + good + ", 0): 1 ahead of 3", x -> x.spill(good, 0f), 1);
            filled().refused("spill(" + good + ", NaN): 1 ahead of 4", x -> x.spill(good, Float.NaN), 1);
            filled().refused("spill(" + good + ", 100000): 1 ahead of 6", x -> x.spill(good, 100000f), 1);
        }
    }

    // "3 (as lot()); 4"
    private static void promise11Read() {
        Edge broken = filled().then("a broken SCALE", x -> x.scale(false));
        for (float grams : Bounds.gramsOutside()) {
            filled().refused("spill " + grams + " g", x -> x.spill(0, grams), 3);
            fresh().refused("spill " + grams + " g of none", x -> x.spill(LYE, grams), 3);
            broken.refused("spill " + grams + " g: 3 does not ask", x -> x.spill(0, grams), 4);
        }
        filled().refused("spill NaN", x -> x.spill(0, Float.NaN), 4);
        fresh().refused("spill NaN of none: 4 ahead of 6", x -> x.spill(LYE, Float.NaN), 4);
        fresh().then("a broken SCALE", x -> x.scale(false)).refused("spill of none: 4 ahead of 6", x -> x.spill(LYE, 1f), 4);
        filled().done("spill 0.1 g", x -> x.spill(0, 0.1f), 1);
        filled().done("spill 100,000 g", x -> x.spill(0, 100000f), 1_000_000);
        filled().done("spill 1,000,000.9 TENTHS", x -> x.spill(0, Bounds.MOST_GRAMS), 1_000_000);
        filled().after("spill", x -> x.spill(0, Bounds.MOST_GRAMS), "count(11)", x -> x.count(11), 937);
        filled().after("spill", x -> x.spill(0, 0.113f), "count(11)", x -> x.count(11), 130);
    }

    // "6"
    private static void promise11NotSoMuch() {
        fresh().refused("spill 0.1 g of none", x -> x.spill(LYE, 0.1f), 6);
        Edge ten = filled().then("10 TENTHS are left", x -> x.spill(0, 99999f));
        ten.refused("spill 11", x -> x.spill(0, 1.1f), 6);
        ten.done("spill 10", x -> x.spill(0, 1f), 10);
        ten.done("spill 10.9", x -> x.spill(0, 1.09f), 10);
        ten.refused("spill 1,000,001: 3 ahead of 6", x -> x.spill(0, 100000.1f), 3);
        Edge none = ten.then("nothing is left", x -> x.spill(0, 1f));
        none.refused("spill 1", x -> x.spill(0, 0.1f), 6);
        none.tells("stock(0)", x -> x.stock(0), 0);
        none.tells("count(9)", x -> x.count(9), 1_000_000);
        Edge two = none.then("two LOTS of 5", x -> {
            x.lot(0, 0.5f, 3, 0);
            x.lot(0, 0.5f, 4, 0);
        });
        two.done("spill both", x -> x.spill(0, 1f), 7);
        two.refused("spill 1 more", x -> x.spill(0, 1.1f), 6);
    }

    // "the lowest number first"; "c times t divided by r, cut, and the LOT has that less"
    private static void promise11OldestFirst() {
        Edge at = fresh().then("LOTS of 3 for 2, 3 for 0, 3 for 1,000,000", x -> {
            x.lot(LYE, 0.3f, 2, 1);
            x.lot(LYE, 0.3f, 0, 1);
            x.lot(LYE, 0.3f, 1_000_000, 1);
        });
        at.done("spill 1: 0.67, cut", x -> x.spill(LYE, 0.1f), 0);
        at.done("spill 2: 1.33, cut", x -> x.spill(LYE, 0.2f), 1);
        at.done("spill 3", x -> x.spill(LYE, 0.3f), 2);
        at.done("spill 6", x -> x.spill(LYE, 0.6f), 2);
        at.done("spill 7: 333,333.3, cut", x -> x.spill(LYE, 0.7f), 333_335);
        at.done("spill 8", x -> x.spill(LYE, 0.8f), 666_668);
        at.done("spill 9", x -> x.spill(LYE, 0.9f), 1_000_002);
        Edge first = at.then("1 is spilt", x -> x.spill(LYE, 0.1f));
        first.done("spill 1 of 2 for 2", x -> x.spill(LYE, 0.1f), 1);
        first.tells("left(1, 2)", x -> x.left(1, 2), 2);
        first.tells("left(1, 1)", x -> x.left(1, 1), 2);
        Edge most = fresh().then("1,000,000 for 1,000,000", x -> x.lot(LYE, 100000f, 1_000_000, 1));
        most.done("spill 999,999", x -> x.spill(LYE, 99999.9f), 999_999);
        Edge last = fresh().then("1 for 1,000,000", x -> x.lot(LYE, 0.1f, 1_000_000, 1));
        last.done("spill 1", x -> x.spill(LYE, 0.1f), 1_000_000);
        last.after("spill 1", x -> x.spill(LYE, 0.1f), "left(1, 2)", x -> x.left(1, 2), 0);
        Edge over = fresh().then("3 for 1,000,000, 2 of them spilt", x -> {
            x.lot(LYE, 0.3f, 1_000_000, 1);
            x.spill(LYE, 0.1f);
            x.spill(LYE, 0.1f);
        });
        over.tells("left(1, 2)", x -> x.left(1, 2), 333_334);
        over.done("the last bears all that is left", x -> x.spill(LYE, 0.1f), 333_334);
    }
}
