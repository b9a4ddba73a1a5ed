/**
 * A Chandlery that counts its calls: nothing is promised of an object behind its 512th call, so a test
 * that made more would ask for what the document leaves free.
 */
final class Counted {
    static final int MOST_CALLS = 512;

    private final Chandlery x = new Chandlery();
    private int calls = 0;

    private Chandlery called() {
        calls++;
        if (calls > MOST_CALLS) {
            throw new IllegalStateException("a test made more than 512 calls of one object");
        }
        return x;
    }

    int callsLeft() {
        return MOST_CALLS - calls;
    }

    int day(int n) {
        return called().day(n);
    }

    int fat(int numbers) {
        return called().fat(numbers);
    }

    boolean row(int fat, int i, int v) {
        return called().row(fat, i, v);
    }

    boolean tear(int fat) {
        return called().tear(fat);
    }

    void scale(boolean works) {
        called().scale(works);
    }

    int recipe(int spare) {
        return called().recipe(spare);
    }

    int part(int recipe, int fat, int parts) {
        return called().part(recipe, fat, parts);
    }

    int lye(int recipe, int weight, int strength) {
        return called().lye(recipe, weight, strength);
    }

    int lot(int good, float grams, int price, int strength) {
        return called().lot(good, grams, price, strength);
    }

    int spill(int good, float grams) {
        return called().spill(good, grams);
    }

    int batch(int kind, int recipe) {
        return called().batch(kind, recipe);
    }

    int weigh(int batch, int good, float grams) {
        return called().weigh(batch, good, grams);
    }

    boolean mix(int batch) {
        return called().mix(batch);
    }

    int mould(int place) {
        return called().mould(place);
    }

    boolean pour(int batch, int place) {
        return called().pour(batch, place);
    }

    boolean cut(int batch, int pieces, int more) {
        return called().cut(batch, pieces, more);
    }

    int boil(int batch) {
        return called().boil(batch);
    }

    int with(int first, int second) {
        return called().with(first, second);
    }

    int sell(int batch, int n, int coins) {
        return called().sell(batch, n, coins);
    }

    int trial(int wick, int width) {
        return called().trial(wick, width);
    }

    int hour(int trial, float grams) {
        return called().hour(trial, grams);
    }

    boolean torn(int trial, int n) {
        return called().torn(trial, n);
    }

    int hours(int wick, int width, int weight) {
        return called().hours(wick, width, weight);
    }

    int burns(int batch, int wick) {
        return called().burns(batch, wick);
    }

    int dip(int first, int less, int weight) {
        return called().dip(first, less, weight);
    }

    long even(int batch, int what) {
        return called().even(batch, what);
    }

    int more(int batch, int fat) {
        return called().more(batch, fat);
    }

    int save(int spare, int what) {
        return called().save(spare, what);
    }

    int ready(int batch) {
        return called().ready(batch);
    }

    int piece(int batch, int k) {
        return called().piece(batch, k);
    }

    int place(int place) {
        return called().place(place);
    }

    int told(int batch, int what) {
        return called().told(batch, what);
    }

    int left(int lot, int what) {
        return called().left(lot, what);
    }

    long stock(int good) {
        return called().stock(good);
    }

    long count(int what) {
        return called().count(what);
    }

    boolean loss(int loss) {
        return called().loss(loss);
    }

    int status() {
        return called().status();
    }

    int check(int batch, int weight, long n, long p) {
        return called().check(batch, weight, n, p);
    }

    void image() {
        called().image();
    }

    boolean back() {
        return called().back();
    }
}
