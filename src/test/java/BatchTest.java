/** Promises 12 to 20 and 27 to 33, 37 and 39: BATCHES and the RACK. */
public final class BatchTest {
    public static void main(String[] args) {
        promise12Batch();
        promise13Weigh();
        promise13States();
        promise13Mending();
        promise13Numbers();
        promise14Mix();
        promise15Mould();
        promise16Pour();
        promise17Cut();
        promise18Boil();
        promise19With();
        promise19Bounds();
        promise20Sell();
        promise20Ready();
        promise27Even();
        promise28More();
        promise28Bounds();
        promise29Save();
        promise29Ties();
        promise30Ready();
        promise31Piece();
        promise32Place();
        promise33Told();
        promise37Loss();
        promise39Check();
        Due.end();
    }

    private static void promise12Batch() {
        Counted x = new Counted();
        Due.refused("batch without a RECIPE", x, x.batch(1, 0), 1);
        x.recipe(7);
        x.recipe(8);
        Due.refused("batch(1, 2)", x, x.batch(1, 2), 1);
        Due.refused("batch(1, -1)", x, x.batch(1, -1), 1);
        Due.refused("batch(5, 2): 1 ahead of 2", x, x.batch(5, 2), 1);
        Due.refused("batch(-1, 0)", x, x.batch(-1, 0), 2);
        Due.refused("batch(5, 0)", x, x.batch(5, 0), 2);
        Due.is("count(4)", x.count(4), 0);
        for (int i = 1; i <= 400; i++) {
            Due.is("batch", x.batch(i % 5, i % 2), i);
        }
        Due.refused("a 401st BATCH", x, x.batch(0, 0), 8);
        Due.refused("a 401st BATCH: 2 ahead of 8", x, x.batch(5, 0), 2);
        Due.is("count(4)", x.count(4), 400);
        Due.is("told(13, 0)", x.told(13, 0), 3);
        Due.is("told(13, 1)", x.told(13, 1), 0);
        Due.is("told(13, 4)", x.told(13, 4), 1);
    }

    private static void promise13Weigh() {
        Counted x = Shop.full();
        Due.refused("weigh without a BATCH", x, x.weigh(1, 0, 1f), 1);
        x.batch(Shop.SOAP, 0);
        x.batch(Shop.CANDLE, 0);
        x.batch(Shop.PLAIN, 0);
        Due.refused("weigh(0, ..)", x, x.weigh(0, 0, 1f), 1);
        Due.refused("weigh(4, ..)", x, x.weigh(4, 0, 1f), 1);
        Due.refused("weigh(1, 2, ..)", x, x.weigh(1, 2, 1f), 1);
        Due.refused("weigh(1, -1, ..)", x, x.weigh(1, -1, 1f), 1);
        Due.refused("weigh(1, 61, 0): 1 ahead of 3", x, x.weigh(1, 61, 0f), 1);
        Due.refused("LYE into a CANDLE", x, x.weigh(2, 60, 1f), 2);
        Due.refused("LYE into a PLAIN one", x, x.weigh(3, 60, 1f), 2);
        Due.refused("LYE into a CANDLE: 2 ahead of 3", x, x.weigh(2, 60, 0f), 2);
        Due.refused("nothing", x, x.weigh(1, 0, 0f), 3);
        Due.refused("0.09 g", x, x.weigh(1, 0, 0.09f), 3);
        Due.refused("100,000.1 g", x, x.weigh(1, 0, 100000.1f), 3);
        Due.refused("no number", x, x.weigh(1, 0, Float.NaN), 4);
        Due.refused("without NEED: 3 ahead of 5", x, x.weigh(1, 1, 0f), 3);
        Due.refused("without NEED: 4 ahead of 5", x, x.weigh(1, 1, Float.NaN), 4);
        Due.refused("without NEED into a SOAP", x, x.weigh(1, 1, 1f), 5);
        Due.done("without NEED into a CANDLE", x, x.weigh(2, 1, 1f), 10);
        Due.done("without NEED into a PLAIN one", x, x.weigh(3, 1, 100000f - 1f), 999990);
        Due.refused("there is none: 5 ahead of 6", x, x.weigh(1, 1, 1f), 5);
        Due.refused("there is none", x, x.weigh(2, 1, 0.1f), 6);
        Due.refused("its weight would be above 1,000,000", x, x.weigh(3, 0, 1.1f), 3);
        Due.refused("no number, so no weight above: 4", x, x.weigh(3, 0, Float.NaN), 4);
        Due.done("its weight is 1,000,000", x, x.weigh(3, 0, 1.075f), 10);
        Due.is("count(11)", x.count(11), 750);
        Due.is("told(3, 2)", x.told(3, 2), 1000000);
        Due.refused("1 more", x, x.weigh(3, 0, 0.1f), 3);
        Due.refused("1 more of none: 3 ahead of 6", x, x.weigh(3, 1, 0.1f), 3);
        Due.is("stock(0)", x.stock(0), 999990);
        Due.is("told(1, 2)", x.told(1, 2), 0);
    }

    private static void promise13States() {
        Counted x = Shop.full();
        for (int kind = 0; kind < 5; kind++) {
            int mixed = Shop.mixed(x, kind, 1f);
            Due.refused("weigh into a MIXED " + kind, x, x.weigh(mixed, 0, 1f), 2);
            Due.refused("2 ahead of 3", x, x.weigh(mixed, 0, 0f), 2);
            int poured = Shop.poured(x, kind, 1f);
            Due.refused("weigh into a POURED " + kind, x, x.weigh(poured, 0, 1f), 2);
            int cut = Shop.cut(x, kind, 1f, 1, 1);
            Due.refused("weigh into a CUT " + kind, x, x.weigh(cut, 0, 1f), 2);
        }
        int off = Shop.open(x, Shop.SOAP, 1f);
        x.weigh(off, 60, 1f);
        x.mix(off);
        Due.is("a MIXED SOAP is OFF", x.even(off, 2), 1);
        Due.refused("weigh into a MIXED SOAP that is OFF", x, x.weigh(off, 0, 1f), 2);
        x.mould(0);
        x.pour(off, 0);
        Due.refused("weigh into a POURED SOAP that is OFF", x, x.weigh(off, 0, 1f), 2);
        int gone = Shop.open(x, Shop.SOAP, 1f);
        x.with(Shop.open(x, Shop.SOAP, 1f), gone);
        Due.is("a GONE SOAP is OFF", x.even(gone, 2), 1);
        Due.refused("weigh into a GONE one", x, x.weigh(gone, 0, 1f), 2);
    }

    private static void promise13Mending() {
        Counted x = Shop.full();
        for (int kind = Shop.SOAP; kind <= Shop.TWICE; kind++) {
            int batch = Shop.cutOff(x, kind, 3, 5);
            Due.done("LYE into a CUT SOAP that is OFF", x, x.weigh(batch, 60, 16f), 160);
            Due.refused("a FAT without NEED into it", x, x.weigh(batch, 1, 1f), 5);
            Due.is("more", x.more(batch, 0), 1778);
            Due.done("too little", x, x.weigh(batch, 0, 177.75f), 1777);
            Due.is("still OFF", x.even(batch, 2), 1);
            Due.done("enough", x, x.weigh(batch, 0, 0.1f), 1);
            Due.is("not OFF", x.even(batch, 2), 0);
            Due.refused("not OFF any more", x, x.weigh(batch, 0, 0.1f), 2);
            Due.is("told(.., 1)", x.told(batch, 1), 3);
            Due.is("told(.., 2)", x.told(batch, 2), 8000 + 1600 + 160 + 1778);
            Due.is("piece(.., 2)", x.piece(batch, 2), 11538 - 11538 * 2 / 3);
            x.day(1);
        }
    }

    private static void promise13Numbers() {
        Counted x = new Counted();
        x.fat(1);
        x.row(0, 0, 1000);
        x.fat(2);
        x.row(1, 0, 2000);
        x.recipe(0);
        x.lot(60, 1f, 10, 500);
        x.lot(0, 100f, 100, 0);
        x.lot(1, 100f, 300, 0);
        x.day(10);
        x.lot(60, 1f, 31, 700);
        x.batch(Shop.SOAP, 0);
        x.weigh(1, 0, 10f);
        x.weigh(1, 1, 10f);
        Due.is("N", x.even(1, 1), 100 * 1000 + 100 * 2000);
        x.row(0, 0, 5);
        Due.is("N as told when it was weighed", x.even(1, 1), 300000);
        x.weigh(1, 0, 1f);
        Due.is("N with the new NEED", x.even(1, 1), 300050);
        x.day(5);
        Due.done("LYE of two LOTS", x, x.weigh(1, 60, 1.5f), 15);
        long p = 10 * (10 * 499 + 5 * 700);
        Due.is("N - P", x.even(1, 0), 300050 - p);
        x.day(5);
        x.weigh(1, 60, 0.2f);
        Due.is("N - P by the STRENGTH of then", x.even(1, 0), 300050 - p - 10 * 2 * 699);
        Due.is("coins", x.told(1, 3), 10 + 30 + 1 + 10 + 15 + 6);
        Due.is("count(8)", x.count(8), 72);
        Due.is("weight", x.told(1, 2), 227);
        x.tear(1);
        x.batch(Shop.PLAIN, 0);
        x.weigh(2, 1, 1f);
        Due.is("a PLAIN one has no N of a FAT without NEED", x.even(2, 1), 0);
        x.weigh(2, 0, 1f);
        Due.is("a PLAIN one's N", x.even(2, 1), 50);
        Due.is("count(8)", x.count(8), 72 + 30 / 10 + 1);
    }

    private static void promise14Mix() {
        Counted x = Shop.full();
        Due.denied("mix without a BATCH", x, x.mix(1), 1);
        x.batch(Shop.SOAP, 0);
        Due.denied("mix(0)", x, x.mix(0), 1);
        Due.denied("mix(2)", x, x.mix(2), 1);
        Due.denied("mix of nothing", x, x.mix(1), 6);
        Due.is("it stays OPEN", x.told(1, 1), 0);
        x.weigh(1, 0, 0.1f);
        Due.done("mix(1)", x, x.mix(1));
        Due.is("it is MIXED", x.told(1, 1), 1);
        Due.denied("mix(1) again", x, x.mix(1), 2);
        x.mould(0);
        x.pour(1, 0);
        Due.denied("mix a POURED one", x, x.mix(1), 2);
        x.cut(1, 1, 0);
        Due.denied("mix a CUT one", x, x.mix(1), 2);
        x.sell(1, 1, 0);
        Due.denied("mix a GONE one", x, x.mix(1), 2);
        Shop.open(x, Shop.SOAP, 1f);
        Shop.open(x, Shop.SOAP, 1f);
        x.with(2, 3);
        Due.denied("mix a GONE one of weight 0: 2 ahead of 6", x, x.mix(3), 2);
    }

    private static void promise15Mould() {
        Counted x = Shop.full();
        Due.refused("mould(-1)", x, x.mould(-1), 1);
        Due.refused("mould(40)", x, x.mould(40), 1);
        Due.refused("mould(MAX)", x, x.mould(Integer.MAX_VALUE), 1);
        for (int place = 0; place < 40; place += 39) {
            Due.done("a MOULD comes", x, x.mould(place), 1);
            Due.is("place", x.place(place), 0);
            Due.done("a MOULD goes", x, x.mould(place), 0);
            Due.is("place", x.place(place), -1);
            Due.done("a MOULD comes again", x, x.mould(place), 1);
            int batch = Shop.mixed(x, Shop.SOAP, 1f);
            x.pour(batch, place);
            Due.refused("a BATCH is there", x, x.mould(place), 2);
            Due.is("place", x.place(place), batch);
            x.cut(batch, 1, 1);
            Due.done("the empty MOULD goes", x, x.mould(place), 0);
        }
    }

    private static void promise16Pour() {
        Counted x = Shop.full();
        x.mould(5);
        Due.denied("pour without a BATCH", x, x.pour(1, 5), 1);
        Shop.open(x, Shop.SOAP, 1f);
        Due.denied("pour an OPEN one", x, x.pour(1, 5), 2);
        x.mix(1);
        Due.denied("pour(0, 5)", x, x.pour(0, 5), 1);
        Due.denied("pour(2, 5)", x, x.pour(2, 5), 1);
        Due.denied("pour(1, -1)", x, x.pour(1, -1), 1);
        Due.denied("pour(1, 40)", x, x.pour(1, 40), 1);
        Due.denied("pour where nothing is", x, x.pour(1, 6), 2);
        Due.is("told(1, 5)", x.told(1, 5), -1);
        Due.done("pour(1, 5)", x, x.pour(1, 5));
        Due.is("told(1, 1)", x.told(1, 1), 2);
        Due.is("told(1, 5)", x.told(1, 5), 5);
        Due.is("place(5)", x.place(5), 1);
        x.mould(6);
        Due.denied("pour a POURED one", x, x.pour(1, 6), 2);
        Shop.mixed(x, Shop.CANDLE, 1f);
        Due.denied("pour where a BATCH is", x, x.pour(2, 5), 2);
        Due.done("pour(2, 6)", x, x.pour(2, 6));
        Due.is("place(6)", x.place(6), 2);
        x.cut(1, 1, 1);
        Due.denied("pour a CUT one", x, x.pour(1, 5), 2);
        Due.denied("pour an OPEN one to no place: 1 ahead of 2", x, x.pour(x.batch(1, 0), 40), 1);
    }

    private static void promise17Cut() {
        Counted x = Shop.full();
        Due.denied("cut without a BATCH", x, x.cut(1, 1, 1), 1);
        int[] least = {Integer.MIN_VALUE, 0, 0, 1, 1};
        int[] most = {Integer.MAX_VALUE, 400, 400, 200, 200};
        for (int kind = 0; kind < 5; kind++) {
            int first = Shop.poured(x, kind, 1f);
            Due.denied("cut(0, ..)", x, x.cut(0, 1, 1), 1);
            Due.denied("cut of one that is not there", x, x.cut(first + 1, 1, 1), 1);
            Due.denied("into 0", x, x.cut(first, 0, 1), 3);
            Due.denied("into 501", x, x.cut(first, 501, 1), 3);
            if (kind != Shop.PLAIN) {
                Due.denied("more is too low for " + kind, x, x.cut(first, 1, least[kind] - 1), 3);
                Due.denied("more is too high for " + kind, x, x.cut(first, 1, most[kind] + 1), 3);
            }
            Due.is("it stays POURED", x.told(first, 1), 2);
            x.day(3);
            Due.done("cut into 1", x, x.cut(first, 1, least[kind]));
            Due.is("told(.., 1)", x.told(first, 1), 3);
            Due.is("told(.., 5)", x.told(first, 5), -1);
            Due.is("its place has an empty MOULD", x.place(first), 0);
            Due.is("told(.., 6)", x.told(first, 6), 1);
            Due.is("told(.., 7)", x.told(first, 7), 1);
            Due.is("told(.., 8)", x.told(first, 8), x.count(0));
            Due.is("told(.., 9)", x.told(first, 9), kind >= 3 ? 1 : 0);
            Due.denied("cut again", x, x.cut(first, 1, 1), 2);
            Due.denied("cut again: 2 ahead of 3", x, x.cut(first, 0, 1), 2);
            int second = Shop.poured(x, kind, 1f);
            Due.done("cut into 500", x, x.cut(second, 500, most[kind]));
            Due.is("told(.., 6)", x.told(second, 6), 500);
            Due.is("told(.., 9)", x.told(second, 9), kind >= 3 ? 200 : 0);
            Due.is("ready", x.ready(second), kind == 1 || kind == 2 ? x.count(0) + 400 : -1);
            Due.denied("cut an OPEN one", x, x.cut(Shop.open(x, kind, 1f), 1, 1), 2);
            Due.denied("cut a MIXED one", x, x.cut(Shop.mixed(x, kind, 1f), 1, 1), 2);
        }
    }

    private static void promise18Boil() {
        Counted x = Shop.full();
        Due.refused("boil without a BATCH", x, x.boil(1), 1);
        for (int kind = 0; kind < 5; kind++) {
            int batch = Shop.cut(x, kind, 1f, 2, 30);
            if (kind != Shop.TWICE) {
                Due.refused("boil a CUT " + kind, x, x.boil(batch), 2);
            }
        }
        Due.refused("boil(0)", x, x.boil(0), 1);
        Due.refused("boil(6)", x, x.boil(6), 1);
        Due.done("boil on the same day", x, x.boil(3), 30);
        x.day(12);
        Due.done("boil on day 12", x, x.boil(3), 42);
        Due.is("ready(3)", x.ready(3), 42);
        x.day(29);
        Due.refused("sell on day 41", x, x.sell(3, 1, 1), 7);
        x.day(1);
        Due.done("sell on day 42", x, x.sell(3, 1, 1), 1);
        Due.done("boil what was READY", x, x.boil(3), 72);
        Due.refused("sell what was boiled again", x, x.sell(3, 1, 1), 7);
        Due.is("the day of its cutting stays", x.told(3, 8), 0);
        Due.refused("boil an OPEN one", x, x.boil(Shop.open(x, Shop.TWICE, 1f)), 2);
        Due.refused("boil a MIXED one", x, x.boil(Shop.mixed(x, Shop.TWICE, 1f)), 2);
        Due.refused("boil a POURED one", x, x.boil(Shop.poured(x, Shop.TWICE, 1f)), 2);
        int off = Shop.cutOff(x, Shop.TWICE, 1, 7);
        Due.done("boil one that is OFF", x, x.boil(off), 49);
    }

    private static void promise19With() {
        Counted x = Shop.full();
        int first = Shop.open(x, Shop.SOAP, 10f);
        x.weigh(first, 60, 1f);
        int second = Shop.open(x, Shop.TWICE, 20f);
        x.weigh(second, 60, 3f);
        Due.refused("with(0, 1)", x, x.with(0, 1), 1);
        Due.refused("with(1, 0)", x, x.with(1, 0), 1);
        Due.refused("with(1, 3)", x, x.with(1, 3), 1);
        Due.refused("with(3, 3): 1 ahead of 2", x, x.with(3, 3), 1);
        Due.refused("with(1, 1)", x, x.with(1, 1), 2);
        Due.done("both OPEN", x, x.with(first, second), 340);
        Due.is("weight", x.told(first, 2), 340);
        Due.is("coins", x.told(first, 3), 340);
        Due.is("KIND", x.told(first, 0), 1);
        Due.is("STATE", x.told(first, 1), 0);
        Due.is("N", x.even(first, 1), 300000);
        Due.is("N - P", x.even(first, 0), 300000 - 200000);
        Due.is("the second is GONE", x.told(second, 1), 4);
        Due.is("its weight", x.told(second, 2), 0);
        Due.is("its coins", x.told(second, 3), 0);
        Due.is("its N", x.even(second, 1), 0);
        Due.is("its N - P", x.even(second, 0), 0);
        Due.is("check of the second", x.check(second, 0, 0, 0), 0);
        Due.is("not twice: count(8)", x.count(8), 340);
        Due.refused("with a GONE second", x, x.with(first, second), 2);
        Due.refused("with a GONE first", x, x.with(second, first), 2);
        Due.refused("two GONE ones", x, x.with(second, second), 2);
        x.mix(first);
        int third = Shop.open(x, Shop.SOAP, 1f);
        Due.refused("MIXED with OPEN", x, x.with(first, third), 2);
        Due.refused("OPEN with MIXED", x, x.with(third, first), 2);
        x.mix(third);
        Due.done("both MIXED", x, x.with(third, first), 350);
        Due.is("the first's STATE", x.told(third, 1), 1);
        int poured = Shop.poured(x, Shop.SOAP, 1f);
        int pouredToo = Shop.poured(x, Shop.SOAP, 1f);
        Due.refused("both POURED", x, x.with(poured, pouredToo), 2);
        int cut = Shop.cut(x, Shop.SOAP, 1f, 1, 1);
        int cutToo = Shop.cut(x, Shop.SOAP, 1f, 1, 1);
        Due.refused("both CUT", x, x.with(cut, cutToo), 2);
        Due.refused("both GONE", x, x.with(first, second), 2);
        for (int kind = 0; kind < 5; kind++) {
            if (kind != Shop.SOAP && kind != Shop.TWICE) {
                int other = Shop.mixed(x, kind, 1f);
                Due.refused("a SOAP with a " + kind, x, x.with(third, other), 2);
                Due.refused("a " + kind + " with a SOAP", x, x.with(other, third), 2);
            }
        }
    }

    private static void promise19Bounds() {
        Counted x = Shop.full();
        x.lot(0, 100000f, 0, 0);
        Shop.mixed(x, Shop.SOAP, 60000f);
        Shop.mixed(x, Shop.SOAP, 40000.1f);
        Due.refused("1,000,001", x, x.with(1, 2), 3);
        Due.is("nothing changed", x.told(1, 2), 600000);
        Due.is("nothing changed", x.told(2, 1), 1);
        Shop.mixed(x, Shop.SOAP, 40000f);
        Due.done("1,000,000", x, x.with(1, 3), 1000000);
        Shop.mixed(x, Shop.PLAIN, 40000f);
        Due.refused("1,400,000 with a PLAIN one: 2 ahead of 3", x, x.with(1, 4), 2);
        x.batch(Shop.SOAP, 0);
        x.batch(Shop.SOAP, 0);
        Due.done("two that are empty", x, x.with(5, 6), 0);
    }

    private static void promise20Sell() {
        Counted x = Shop.full();
        Due.refused("sell without a BATCH", x, x.sell(1, 1, 1), 1);
        Shop.open(x, Shop.PLAIN, 1f);
        Due.refused("sell(0, ..)", x, x.sell(0, 1, 1), 1);
        Due.refused("sell(2, ..)", x, x.sell(2, 1, 1), 1);
        Due.refused("sell an OPEN one", x, x.sell(1, 1, 1), 2);
        x.mix(1);
        Due.refused("sell a MIXED one", x, x.sell(1, 1, 1), 2);
        x.mould(1);
        x.pour(1, 1);
        Due.refused("sell a POURED one: 2 ahead of 3", x, x.sell(1, 0, 1), 2);
        x.cut(1, 10, 0);
        Due.refused("sell 0", x, x.sell(1, 0, 1), 3);
        Due.refused("sell -1", x, x.sell(1, -1, 1), 3);
        Due.refused("sell for -1", x, x.sell(1, 1, -1), 3);
        Due.refused("sell for 1,000,001", x, x.sell(1, 1, 1000001), 3);
        Due.refused("sell 11 for -1: 3 ahead of 6", x, x.sell(1, 11, -1), 3);
        Due.refused("sell 11", x, x.sell(1, 11, 1), 6);
        Due.refused("sell MAX", x, x.sell(1, Integer.MAX_VALUE, 1), 6);
        Due.done("sell 3 for nothing", x, x.sell(1, 3, 0), 7);
        Due.is("told(1, 7)", x.told(1, 7), 7);
        Due.is("told(1, 6)", x.told(1, 6), 10);
        Due.refused("sell 8 of 7", x, x.sell(1, 8, 1), 6);
        Due.done("sell 6 for 1,000,000", x, x.sell(1, 6, 1000000), 1);
        Due.is("told(1, 1)", x.told(1, 1), 3);
        Due.done("sell the last for 7", x, x.sell(1, 1, 7), 0);
        Due.is("it is GONE", x.told(1, 1), 4);
        Due.is("told(1, 10)", x.told(1, 10), 1000007);
        Due.is("told(1, 7)", x.told(1, 7), 0);
        Due.is("count(10)", x.count(10), 1000007);
        Due.refused("sell a GONE one", x, x.sell(1, 1, 1), 2);
        Due.is("GONE ones bear their coins", x.count(8), 10);
        Due.is("GONE ones bear their coins", x.told(1, 3), 10);
        Shop.cut(x, Shop.CANDLE, 1f, 2, 1);
        x.sell(2, 2, 5);
        Due.is("told(2, 10)", x.told(2, 10), 5);
        Due.is("count(10)", x.count(10), 1000012);
    }

    private static void promise20Ready() {
        Counted x = Shop.full();
        for (int kind = Shop.CANDLE; kind <= Shop.DIPPED; kind++) {
            Due.done("CANDLES are READY as they are CUT", x, x.sell(Shop.cut(x, kind, 1f, 2, 9), 1, 1), 1);
        }
        for (int kind = Shop.SOAP; kind <= Shop.TWICE; kind++) {
            int soap = Shop.cut(x, kind, 1f, 2, 5);
            Due.refused("3 pieces of 2: 6 ahead of 7", x, x.sell(soap, 3, 1), 6);
            Due.refused("on its day", x, x.sell(soap, 1, 1), 7);
            x.day(4);
            Due.refused("4 days on", x, x.sell(soap, 1, 1), 7);
            x.day(1);
            Due.done("5 days on", x, x.sell(soap, 1, 1), 1);
            Due.done("a CURE of 0 days", x, x.sell(Shop.cut(x, kind, 1f, 2, 0), 1, 1), 1);
            int off = Shop.cutOff(x, kind, 2, 5);
            x.day(100);
            Due.refused("OFF", x, x.sell(off, 1, 1), 7);
            x.weigh(off, 0, 88.9f);
            Due.is("not OFF", x.even(off, 2), 0);
            Due.refused("put right today", x, x.sell(off, 1, 1), 7);
            x.day(4);
            Due.refused("4 days behind", x, x.sell(off, 1, 1), 7);
            x.day(1);
            Due.done("5 days behind", x, x.sell(off, 1, 1), 1);
        }
    }

    private static void promise27Even() {
        Counted x = Shop.full();
        Due.is("even without a BATCH", x.even(1, 0), -1);
        x.batch(Shop.SOAP, 0);
        Due.is("even(0, 0)", x.even(0, 0), -1);
        Due.is("even(2, 0)", x.even(2, 0), -1);
        Due.is("even(1, -1)", x.even(1, -1), -1);
        Due.is("even(1, 3)", x.even(1, 3), -1);
        Due.is("N is 0: OFF", x.even(1, 2), 1);
        x.weigh(1, 60, 1f);
        Due.is("N - P below 0", x.even(1, 0), -50000);
        Due.is("N", x.even(1, 1), 0);
        x.weigh(1, 0, 5.5f);
        Due.is("N - P", x.even(1, 0), 5000);
        Due.is("5,000 of 55,000 is below a tenth", x.even(1, 2), 1);
        x.weigh(1, 0, 0.1f);
        Due.is("6,000 of 56,000", x.even(1, 2), 0);
        int just = Shop.open(x, Shop.TWICE, 10f);
        x.weigh(just, 60, 1.8f);
        Due.is("a tenth to the point", x.even(just, 0) * 10, x.even(just, 1));
        Due.is("a tenth to the point is not OFF", x.even(just, 2), 0);
        for (int kind = 0; kind < 5; kind++) {
            boolean soap = kind == Shop.SOAP || kind == Shop.TWICE;
            Due.is("an empty one's OFF, KIND " + kind, x.even(x.batch(kind, 0), 2), soap ? 1 : 0);
        }
        Due.refused("day(0)", x, x.day(0), 3);
        x.even(1, 0);
        x.even(99, 0);
        Due.is("status() stays", x.status(), 3);
        x.row(0, 0, 9999);
        int big = Shop.open(x, Shop.SOAP, 90000f);
        Due.is("a great N", x.even(big, 1), 900000L * 9999);
        x.weigh(x.batch(Shop.SOAP, 0), 60, 90000f);
        Due.is("a great P", x.even((int) x.count(4), 0), -900000L * 5000);
    }

    private static void promise28More() {
        Counted x = Shop.full();
        x.fat(1);
        x.fat(1);
        x.row(3, 0, 7);
        Due.is("more without a BATCH", x.more(1, 0), -1);
        int soap = x.batch(Shop.SOAP, 0);
        Due.is("more(0, 0)", x.more(0, 0), -1);
        Due.is("more(2, 0)", x.more(2, 0), -1);
        Due.is("no such FAT", x.more(soap, 4), -1);
        Due.is("no such FAT", x.more(soap, -1), -1);
        Due.is("LYE is no FAT", x.more(soap, 60), -1);
        Due.is("a FAT without NEED", x.more(soap, 1), -1);
        Due.is("a FAT with a NEED of 0", x.more(soap, 2), -1);
        Due.is("an empty one", x.more(soap, 0), 1);
        Due.is("an empty one", x.more(soap, 3), 1);
        x.row(3, 0, 1);
        Due.is("an empty one, by NEED 1", x.more(soap, 3), 1);
        x.row(3, 0, 7);
        x.weigh(soap, 60, 0.9f);
        Due.is("45,000 wants 50,000", x.more(soap, 0), 50);
        Due.is("45,000 wants 50,000 by 7", x.more(soap, 3), 7143);
        x.weigh(soap, 60, 0.1f);
        Due.is("50,000 wants 55,555.5", x.more(soap, 0), 56);
        x.weigh(soap, 0, 5.5f);
        Due.is("555.5 by 1,000", x.more(soap, 0), 1);
        Due.is("555.5 by 7", x.more(soap, 3), 80);
        x.weigh(soap, 0, 0.1f);
        Due.is("not OFF", x.more(soap, 0), 0);
        Due.is("not OFF", x.more(soap, 3), 0);
        for (int kind = 0; kind < 5; kind++) {
            boolean isSoap = kind == Shop.SOAP || kind == Shop.TWICE;
            Due.is("KIND " + kind, x.more(x.batch(kind, 0), 0), isSoap ? 1 : -1);
        }
        int gone = Shop.open(x, Shop.SOAP, 1f);
        x.with(soap, gone);
        Due.is("whatever its STATE: GONE", x.more(gone, 0), 1);
        int off = Shop.cutOff(x, Shop.SOAP, 1, 1);
        Due.is("whatever its STATE: CUT", x.more(off, 0), 889);
        Due.refused("day(0)", x, x.day(0), 3);
        x.more(off, 0);
        x.more(off, 1);
        Due.is("status() stays", x.status(), 3);
    }

    private static void promise28Bounds() {
        Counted x = Shop.full();
        x.recipe(0);
        x.recipe(50);
        x.fat(1);
        x.row(2, 0, 1);
        x.batch(Shop.SOAP, 1);
        x.weigh(1, 60, 20f);
        Due.is("1,000,000 wanted", x.more(1, 2), 1000000);
        x.weigh(1, 60, 0.1f);
        Due.is("more than 1,000,000 wanted", x.more(1, 2), -1);
        Due.is("less of another", x.more(1, 0), 1005);
        x.batch(Shop.TWICE, 2);
        x.weigh(2, 60, 20f);
        Due.is("SPARE 50 wants twice as much", x.more(2, 0), 2000);
        x.row(0, 0, 1001);
        Due.is("the NEED of now", x.more(2, 0), 1999);
        x.weigh(2, 60, 90000f);
        Due.is("far more than 1,000,000 wanted", x.more(2, 2), -1);
    }

    private static void promise29Save() {
        Counted x = Shop.full();
        Due.is("save of nothing", x.save(0, 0), -1);
        int sharp = Shop.open(x, Shop.SOAP, 10f);
        x.weigh(sharp, 60, 2f);
        x.mix(sharp);
        Due.is("save of one", x.save(0, 0), -1);
        Shop.mixed(x, Shop.PLAIN, 1f);
        Shop.mixed(x, Shop.CANDLE, 1f);
        Shop.mixed(x, Shop.DIPPED, 1f);
        Shop.open(x, Shop.SOAP, 1f);
        Shop.poured(x, Shop.SOAP, 1f);
        Shop.cut(x, Shop.SOAP, 1f, 1, 1);
        Due.is("no other is a MIXED SOAP", x.save(0, 0), -1);
        int mild = Shop.mixed(x, Shop.TWICE, 10f);
        Due.is("save(50, 0)", x.save(50, 0), sharp);
        Due.is("save(50, 1)", x.save(50, 1), mild);
        Due.is("save(51, 0)", x.save(51, 0), -1);
        Due.is("save(-1, 0)", x.save(-1, 0), -1);
        Due.is("save(0, -1)", x.save(0, -1), -1);
        Due.is("save(0, 2)", x.save(0, 2), -1);
        int light = Shop.mixed(x, Shop.SOAP, 9.9f);
        Due.is("save(49, 1): a lighter one", x.save(49, 1), light);
        Due.is("save(50, 1): that is below 50", x.save(50, 0), mild);
        Due.is("save(50, 1): that is below 50", x.save(50, 1), light);
        int lyeAlone = x.batch(Shop.SOAP, 0);
        x.weigh(lyeAlone, 60, 0.1f);
        x.mix(lyeAlone);
        Due.is("LYE alone puts the lightest together", x.save(0, 0), light);
        Due.is("LYE alone puts the lightest together", x.save(0, 1), lyeAlone);
        int sharper = Shop.open(x, Shop.SOAP, 0.1f);
        x.weigh(sharper, 60, 0.2f);
        x.mix(sharper);
        Due.is("LYE in both is too much", x.save(0, 0), lyeAlone - 1);
        Due.is("LYE in both is too much", x.save(0, 1), lyeAlone);
        Due.refused("day(0)", x, x.day(0), 3);
        x.save(0, 0);
        x.save(99, 0);
        Due.is("status() stays", x.status(), 3);
    }

    private static void promise29Ties() {
        Counted x = Shop.full();
        x.lot(0, 100000f, 0, 0);
        x.fat(1);
        x.lot(2, 10f, 0, 0);
        for (int i = 0; i < 2; i++) {
            int empty = x.batch(Shop.SOAP, 0);
            x.weigh(empty, 2, 1f);
            x.mix(empty);
        }
        Due.is("N is 0", x.save(0, 0), -1);
        Shop.mixed(x, Shop.SOAP, 60000f);
        Shop.mixed(x, Shop.SOAP, 40000f);
        Due.is("the lightest", x.save(0, 0), 1);
        Due.is("the lightest", x.save(0, 1), 4);
        x.with(4, 1);
        x.with(4, 2);
        Due.is("1,000,020 is too much", x.save(0, 0), -1);
        Shop.mixed(x, Shop.SOAP, 39998f);
        Due.is("999,980: of 3 and 5, of 4 and 5", x.save(0, 0), 4);
        Shop.mixed(x, Shop.SOAP, 1f);
        Shop.mixed(x, Shop.SOAP, 2f);
        Shop.mixed(x, Shop.SOAP, 2f);
        Shop.mixed(x, Shop.SOAP, 1f);
        Due.is("6 and 9", x.save(0, 0), 6);
        Due.is("6 and 9", x.save(0, 1), 9);
        x.with(4, 9);
        Due.is("6 and 7, not 6 and 8", x.save(0, 0), 6);
        Due.is("6 and 7, not 6 and 8", x.save(0, 1), 7);
        x.with(4, 6);
        Shop.mixed(x, Shop.SOAP, 2f);
        Due.is("7 and 8, not 7 and 10 or 8 and 10", x.save(0, 0), 7);
        Due.is("7 and 8, not 7 and 10 or 8 and 10", x.save(0, 1), 8);
        justInBounds();
    }

    private static void justInBounds() {
        Counted x = Shop.full();
        x.lot(0, 100000f, 0, 0);
        Shop.mixed(x, Shop.SOAP, 60000f);
        Shop.mixed(x, Shop.SOAP, 40000.1f);
        Due.is("1,000,001 is too much", x.save(0, 0), -1);
        Shop.mixed(x, Shop.SOAP, 40000f);
        x.with(3, 2);
        Due.is("too much", x.save(0, 0), -1);
        Shop.mixed(x, Shop.SOAP, 40000f);
        Due.is("1,000,000 is not", x.save(0, 0), 1);
        Due.is("1,000,000 is not", x.save(0, 1), 4);
    }

    private static void promise30Ready() {
        Counted x = Shop.full();
        Due.is("ready without a BATCH", x.ready(1), -1);
        x.day(10);
        for (int kind = 0; kind < 5; kind++) {
            boolean soap = kind == Shop.SOAP || kind == Shop.TWICE;
            int batch = Shop.cut(x, kind, 1f, 1, 20);
            Due.is("ready of a CUT " + kind, x.ready(batch), soap ? 30 : -1);
            Due.is("ready of an OPEN one", x.ready(Shop.open(x, kind, 1f)), -1);
            Due.is("ready of a MIXED one", x.ready(Shop.mixed(x, kind, 1f)), -1);
            Due.is("ready of a POURED one", x.ready(Shop.poured(x, kind, 1f)), -1);
        }
        Due.is("ready(0)", x.ready(0), -1);
        Due.is("ready(21)", x.ready(21), -1);
        int off = Shop.cutOff(x, Shop.TWICE, 1, 20);
        Due.is("by its days alone, though OFF", x.ready(off), 30);
        x.day(3);
        x.weigh(off, 60, 1f);
        Due.is("behind the latest weighing", x.ready(off), 33);
        x.day(3);
        x.boil(off);
        Due.is("behind the latest boiling", x.ready(off), 36);
        x.day(3);
        x.weigh(off, 0, 500f);
        Due.is("behind the latest weighing", x.ready(off), 39);
        x.day(50);
        Due.is("a day that is past", x.ready(off), 39);
        Due.refused("day(0)", x, x.day(0), 3);
        x.ready(off);
        x.ready(99);
        Due.is("status() stays", x.status(), 3);
        x.sell(off, 1, 1);
        Due.is("ready of a GONE one", x.ready(off), -1);
        int earlier = Shop.open(x, Shop.SOAP, 1f);
        x.day(2);
        x.mix(earlier);
        x.day(2);
        x.mould(0);
        x.pour(earlier, 0);
        x.day(2);
        x.cut(earlier, 1, 1);
        Due.is("behind its cutting, not its weighing", x.ready(earlier), x.count(0) + 1);
    }

    private static void promise31Piece() {
        Counted x = Shop.full();
        Due.is("piece without a BATCH", x.piece(1, 0), -1);
        int candle = Shop.cut(x, Shop.CANDLE, 1f, 3, 1);
        Due.is("piece(0, 0)", x.piece(0, 0), -1);
        Due.is("piece(2, 0)", x.piece(2, 0), -1);
        Due.is("piece -1", x.piece(candle, -1), -1);
        Due.is("piece 3 of 3", x.piece(candle, 3), -1);
        Due.is("piece MAX", x.piece(candle, Integer.MAX_VALUE), -1);
        int[] due = {3, 3, 4};
        for (int k = 0; k < 3; k++) {
            Due.is("10 by 3, piece " + k, x.piece(candle, k), due[k]);
        }
        int soap = Shop.cut(x, Shop.SOAP, 100f, 3, 0);
        int plain = Shop.cut(x, Shop.PLAIN, 100f, 3, 0);
        x.day(7);
        Due.is("a SOAP's 333 after 7 days", x.piece(soap, 0), 328);
        Due.is("a SOAP's 334 after 7 days", x.piece(soap, 2), 329);
        Due.is("a CANDLE's", x.piece(candle, 2), 4);
        Due.is("a PLAIN one's", x.piece(plain, 2), 334);
        x.sell(soap, 1, 1);
        Due.is("the first is sold", x.piece(soap, 0), 328);
        Due.is("the last is not", x.piece(soap, 2), 329);
        x.day(492);
        Due.is("after 499 days", x.piece(soap, 1), 0);
        x.day(1);
        Due.is("after 500 days", x.piece(soap, 1), 0);
        x.day(500);
        Due.is("after 1,000 days: 0 at least", x.piece(soap, 1), 0);
        Due.is("not CUT", x.piece(Shop.poured(x, Shop.SOAP, 1f), 0), -1);
        Due.refused("day(0)", x, x.day(0), 3);
        x.piece(soap, 0);
        x.piece(soap, 9);
        Due.is("status() stays", x.status(), 3);
        x.sell(candle, 3, 1);
        Due.is("GONE", x.piece(candle, 0), -1);
        greatPieces();
    }

    private static void greatPieces() {
        Counted x = Shop.full();
        int soap = Shop.cut(x, Shop.TWICE, 100000f, 1, 0);
        Due.is("1,000,000 in one piece", x.piece(soap, 0), 1000000);
        x.day(499);
        Due.is("a 500th of it is left", x.piece(soap, 0), 2000);
        x.loss(20);
        Shop.wait(x, 29501);
        Due.is("on the last day", x.piece(soap, 0), 0);
        allPieces();
    }

    private static void allPieces() {
        Counted x = new Counted();
        x.fat(0);
        x.recipe(0);
        x.lot(0, 99999.9f, 0, 0);
        int plain = Shop.cut(x, Shop.PLAIN, 99999.9f, 500, 0);
        int first = x.piece(plain, 0);
        Due.is("999,999 by 500, the first", first, 1999);
        int last = first;
        long all = first;
        for (int k = 1; k < 500; k++) {
            last = x.piece(plain, k);
            all += last;
        }
        Due.is("999,999 by 500, the last", last, 2000);
        Due.is("all pieces", all, 999999);
    }

    private static void promise32Place() {
        Counted x = Shop.full();
        Due.is("place(-1)", x.place(-1), -1);
        Due.is("place(40)", x.place(40), -1);
        Due.is("place(MAX)", x.place(Integer.MAX_VALUE), -1);
        x.mould(39);
        x.mould(0);
        Due.is("place(39)", x.place(39), 0);
        Shop.mixed(x, Shop.SOAP, 1f);
        Shop.mixed(x, Shop.SOAP, 1f);
        x.pour(2, 39);
        Due.is("place(39)", x.place(39), 2);
        Due.is("place(0)", x.place(0), 0);
        Due.is("place(20)", x.place(20), -1);
        Due.refused("day(0)", x, x.day(0), 3);
        x.place(39);
        x.place(40);
        Due.is("status() stays", x.status(), 3);
    }

    private static void promise33Told() {
        Counted x = Shop.full();
        x.recipe(3);
        Due.is("told without a BATCH", x.told(1, 0), -1);
        x.batch(Shop.PLAIN, 0);
        int batch = x.batch(Shop.DIPPED, 1);
        Due.is("told(0, 0)", x.told(0, 0), -1);
        Due.is("told(3, 0)", x.told(3, 0), -1);
        Due.is("told(.., -1)", x.told(batch, -1), -1);
        Due.is("told(.., 11)", x.told(batch, 11), -1);
        tellsAll(x, batch, 4, 0, 0, 0, 1, -1, 0, 0, -1, 0, 0);
        x.weigh(batch, 0, 10f);
        tellsAll(x, batch, 4, 0, 100, 100, 1, -1, 0, 0, -1, 0, 0);
        x.mix(batch);
        tellsAll(x, batch, 4, 1, 100, 100, 1, -1, 0, 0, -1, 0, 0);
        x.mould(7);
        x.pour(batch, 7);
        tellsAll(x, batch, 4, 2, 100, 100, 1, 7, 0, 0, -1, 0, 0);
        x.day(9);
        x.cut(batch, 5, 33);
        tellsAll(x, batch, 4, 3, 100, 100, 1, -1, 5, 5, 9, 33, 0);
        x.day(9);
        x.sell(batch, 2, 12);
        tellsAll(x, batch, 4, 3, 100, 100, 1, -1, 5, 3, 9, 33, 12);
        x.sell(batch, 3, 13);
        tellsAll(x, batch, 4, 4, 100, 100, 1, -1, 5, 0, 9, 33, 25);
        tellsAll(x, 1, 0, 0, 0, 0, 0, -1, 0, 0, -1, 0, 0);
        Due.refused("day(0)", x, x.day(0), 3);
        x.told(batch, 0);
        x.told(99, 0);
        Due.is("status() stays", x.status(), 3);
    }

    private static void tellsAll(Counted x, int batch, int... due) {
        for (int what = 0; what < due.length; what++) {
            Due.is("told(" + batch + ", " + what + ")", x.told(batch, what), due[what]);
        }
    }

    private static void promise37Loss() {
        Counted x = Shop.full();
        int soap = Shop.cut(x, Shop.SOAP, 100f, 1, 0);
        x.day(10);
        Due.is("LOSS is 2 at first", x.piece(soap, 0), 980);
        Due.denied("loss(-1)", x, x.loss(-1), 3);
        Due.denied("loss(21)", x, x.loss(21), 3);
        Due.is("count(12)", x.count(12), 2);
        Due.done("loss(20)", x, x.loss(20));
        Due.is("for all their days", x.piece(soap, 0), 800);
        Due.is("count(12)", x.count(12), 20);
        Due.done("loss(0)", x, x.loss(0));
        Due.is("no LOSS", x.piece(soap, 0), 1000);
        x.loss(20);
        x.day(40);
        Due.is("all is lost", x.piece(soap, 0), 0);
        x.day(1);
        Due.is("0 at least", x.piece(soap, 0), 0);
        Due.is("the BATCH's weight stays", x.told(soap, 2), 1000);
    }

    private static void promise39Check() {
        Counted x = Shop.full();
        Due.is("check without a BATCH", x.check(1, 0, 0, 0), -1);
        int soap = Shop.open(x, Shop.SOAP, 10f);
        x.weigh(soap, 60, 1f);
        Due.is("check(0, ..)", x.check(0, 110, 100000, 50000), -1);
        Due.is("check(2, ..)", x.check(2, 0, 0, 0), -1);
        Due.is("just so", x.check(soap, 110, 100000, 50000), 0);
        Due.is("another weight", x.check(soap, 111, 100000, 50000), 1);
        Due.is("another N", x.check(soap, 110, 100001, 50000), 2);
        Due.is("another P", x.check(soap, 110, 100000, 50001), 3);
        Due.is("another P", x.check(soap, 110, 100000, -50000), 3);
        Due.is("all others", x.check(soap, 0, 0, 0), 1);
        Due.is("another N and P", x.check(soap, 110, 0, 0), 2);
        Due.is("a long N", x.check(soap, 110, 100000L + (1L << 32), 50000), 2);
        Due.is("a long P", x.check(soap, 110, 100000, 50000L + (1L << 32)), 3);
        Due.refused("day(0)", x, x.day(0), 3);
        x.check(soap, 110, 100000, 50000);
        x.check(99, 0, 0, 0);
        Due.is("status() stays", x.status(), 3);
    }
}
