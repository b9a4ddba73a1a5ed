/** Ways to bring a new object quickly to where a test begins. */
final class Shop {
    static final int LYE = 60;
    static final int PLAIN = 0;
    static final int SOAP = 1;
    static final int TWICE = 2;
    static final int CANDLE = 3;
    static final int DIPPED = 4;

    private Shop() {
    }

    /**
     * FAT 0 with NEED 1,000, FAT 1 without NEED, RECIPE 0 with SPARE 10; LOT 1 of FAT 0 and LOT 2 of
     * FAT 1, 1,000,000 TENTHS each for 1,000,000 coins; LOT 3 of LYE, as much, STRENGTH 500.
     */
    static Counted full() {
        Counted x = new Counted();
        fill(x);
        return x;
    }

    /** What full() has, for an object that is new. */
    static void fill(Counted x) {
        x.fat(3);
        x.row(0, 0, 1000);
        x.fat(0);
        x.recipe(10);
        x.lot(0, 100000f, 1000000, 0);
        x.lot(1, 100000f, 1000000, 0);
        x.lot(LYE, 100000f, 1000000, 500);
    }

    /** A BATCH of a KIND by RECIPE 0 with so many grams of FAT 0. */
    static int open(Counted x, int kind, float grams) {
        int batch = x.batch(kind, 0);
        x.weigh(batch, 0, grams);
        return batch;
    }

    static int mixed(Counted x, int kind, float grams) {
        int batch = open(x, kind, grams);
        x.mix(batch);
        return batch;
    }

    /** Poured on the place that has its own number (it must be empty). */
    static int poured(Counted x, int kind, float grams) {
        int batch = mixed(x, kind, grams);
        x.mould(batch);
        x.pour(batch, batch);
        return batch;
    }

    static int cut(Counted x, int kind, float grams, int pieces, int more) {
        int batch = poured(x, kind, grams);
        x.cut(batch, pieces, more);
        return batch;
    }

    /** A SOAP of 8,000 TENTHS of FAT 0 and 1,600 of LYE that is CUT and OFF. */
    static int cutOff(Counted x, int kind, int pieces, int cure) {
        int batch = open(x, kind, 800f);
        x.weigh(batch, LYE, 160f);
        x.mix(batch);
        x.mould(batch);
        x.pour(batch, batch);
        x.cut(batch, pieces, cure);
        return batch;
    }

    /** Days in steps that day() takes. */
    static void wait(Counted x, int days) {
        for (int left = days; left > 0; left -= 1000) {
            x.day(Math.min(left, 1000));
        }
    }
}
