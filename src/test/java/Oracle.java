import java.math.BigInteger;
import java.util.ArrayList;
import java.util.List;
import java.util.TreeSet;
import java.util.function.Consumer;

/**
 * The document told a second time, slowly: what is kept is the list of acts that led to it, sums are
 * made anew from what was weighed, and least and greatest numbers are found by trying.
 */
final class Oracle {
    private static final int NONE = -1;
    private static final int LYE = 60;

    private static final class LotOf {
        int good;
        int weight;
        int coins;
        int price;
        int strength;
        int came;
    }

    private static final class BatchOf {
        int number;
        int kind;
        int recipe;
        int state;
        List<long[]> weighed = new ArrayList<>(); // TENTHS, N, P, coins
        int pieces;
        int sold;
        int more;
        int cutOn = NONE;
        List<Integer> cureDays = new ArrayList<>();
        List<Integer> sales = new ArrayList<>();
    }

    private static final class TrialOf {
        int wick;
        int width;
        List<Integer> lost = new ArrayList<>();
    }

    private int day;
    private boolean works;
    private int status;
    private int rest;
    private int loss;
    private List<int[]> fats;
    private List<Integer> spares;
    private List<List<int[]>> parts;
    private List<LotOf> lots;
    private List<BatchOf> batches;
    private List<TrialOf> trials;
    private List<Integer> spilt;
    private int[] rack;
    private List<Consumer<Oracle>> acts;
    private List<Consumer<Oracle>> kept = null;
    private final TreeSet<Integer> faults = new TreeSet<>();

    Oracle() {
        begin();
    }

    private void begin() {
        day = 0;
        works = true;
        status = 0;
        rest = 0;
        loss = 2;
        fats = new ArrayList<>();
        spares = new ArrayList<>();
        parts = new ArrayList<>();
        lots = new ArrayList<>();
        batches = new ArrayList<>();
        trials = new ArrayList<>();
        spilt = new ArrayList<>();
        rack = new int[40];
        java.util.Arrays.fill(rack, NONE);
        acts = new ArrayList<>();
    }

    // ---- the lowest fault of all that hold is STATUS

    private void fault(boolean holds, int why) {
        if (holds) {
            faults.add(why);
        }
    }

    private boolean refuses() {
        status = faults.isEmpty() ? 0 : faults.first();
        faults.clear();
        return status != 0;
    }

    private static boolean out(long v, long low, long high) {
        return v < low || v > high;
    }

    // ---- what there is

    private boolean isFat(int fat) {
        return !out(fat, 0, fats.size() - 1);
    }

    private boolean isGood(int good) {
        return good == LYE || isFat(good);
    }

    private boolean isRecipe(int recipe) {
        return !out(recipe, 0, spares.size() - 1);
    }

    private BatchOf find(int batch) {
        return out(batch, 1, batches.size()) ? null : batches.get(batch - 1);
    }

    private TrialOf findTrial(int trial) {
        return out(trial, 1, trials.size()) ? null : trials.get(trial - 1);
    }

    private int numberOf(int fat, int i) {
        if (!isFat(fat) || fats.get(fat) == null || out(i, 0, fats.get(fat).length - 1)) {
            return NONE;
        }
        return fats.get(fat)[i];
    }

    private static boolean isSoap(BatchOf b) {
        return b.kind == 1 || b.kind == 2;
    }

    private static boolean isCandle(BatchOf b) {
        return b.kind == 3 || b.kind == 4;
    }

    private static long sum(BatchOf b, int column) {
        return b.weighed.stream().mapToLong(w -> w[column]).sum();
    }

    private static boolean below(long n, long p, int spare) {
        BigInteger left = BigInteger.valueOf(n - p).multiply(BigInteger.valueOf(100));
        return n == 0 || left.compareTo(BigInteger.valueOf(n).multiply(BigInteger.valueOf(spare))) < 0;
    }

    private boolean isOff(BatchOf b) {
        return isSoap(b) && below(sum(b, 1), sum(b, 2), spares.get(b.recipe));
    }

    private int endOf(BatchOf b) {
        return b.cureDays.stream().mapToInt(d -> d).max().orElse(0) + b.more;
    }

    private static int placeOf(int[] rack, int number) {
        for (int place = 0; place < 40; place++) {
            if (rack[place] == number) {
                return place;
            }
        }
        return NONE;
    }

    // ---- the SCALE; a product of floats is that of doubles (which is exact), rounded once

    private static float timesFloat(float a, double b) {
        return (float) ((double) a * b);
    }

    private boolean reads(float grams) {
        return works && !Float.isNaN(grams);
    }

    private void faultOfReading(float grams, int least) {
        fault(!reads(grams), 4);
        if (reads(grams)) {
            double read = timesFloat(grams, 10);
            fault(read < least || Math.floor(read) > 1000000, 3);
        }
    }

    private int tenths(float grams) {
        return (int) Math.floor(timesFloat(grams, 10));
    }

    private void readRest(float grams) {
        rest = (int) timesFloat(timesFloat(grams, 10) - tenths(grams), 1000);
    }

    private int strengthOf(LotOf lot) {
        int strength = lot.strength;
        for (int d = lot.came + 10; d <= day && strength > 0; d += 10) {
            strength--;
        }
        return strength;
    }

    /** TENTHS, weight times STRENGTH, coins. */
    private long[] take(int good, int tenths) {
        long[] taken = {tenths, 0, 0};
        int wanted = tenths;
        for (LotOf lot : lots) {
            int t = lot.good == good ? Math.min(wanted, lot.weight) : 0;
            if (t > 0) {
                long coins = BigInteger.valueOf(lot.coins).multiply(BigInteger.valueOf(t))
                        .divide(BigInteger.valueOf(lot.weight)).longValueExact();
                lot.weight -= t;
                lot.coins -= (int) coins;
                wanted -= t;
                taken[1] += (long) t * strengthOf(lot);
                taken[2] += coins;
            }
        }
        return taken;
    }

    // ---- acts

    public int day(int n) {
        acts.add(o -> o.day(n));
        fault(out(n, 1, 1000) || day + (long) n > 30000, 3);
        if (refuses()) {
            return NONE;
        }
        day += n;
        return day;
    }

    public int fat(int numbers) {
        acts.add(o -> o.fat(numbers));
        fault(out(numbers, 0, 5), 3);
        fault(fats.size() == 60, 8);
        if (refuses()) {
            return NONE;
        }
        fats.add(new int[numbers]);
        return fats.size() - 1;
    }

    public boolean row(int fat, int i, int v) {
        acts.add(o -> o.row(fat, i, v));
        fault(!isFat(fat), 1);
        fault(out(v, 0, 9999), 3);
        fault(numberOf(fat, i) == NONE, 5);
        if (refuses()) {
            return false;
        }
        fats.get(fat)[i] = v;
        return true;
    }

    public boolean tear(int fat) {
        acts.add(o -> o.tear(fat));
        fault(!isFat(fat), 1);
        fault(isFat(fat) && fats.get(fat) == null, 5);
        if (refuses()) {
            return false;
        }
        fats.set(fat, null);
        return true;
    }

    public void scale(boolean works) {
        acts.add(o -> o.scale(works));
        this.works = works;
        status = 0;
    }

    public int recipe(int spare) {
        acts.add(o -> o.recipe(spare));
        fault(out(spare, 0, 50), 3);
        fault(spares.size() == 100, 8);
        if (refuses()) {
            return NONE;
        }
        spares.add(spare);
        parts.add(new ArrayList<>());
        return spares.size() - 1;
    }

    public int part(int recipe, int fat, int n) {
        acts.add(o -> o.part(recipe, fat, n));
        fault(!isRecipe(recipe) || !isFat(fat), 1);
        fault(out(n, 1, 100), 3);
        int[] told = null;
        if (isRecipe(recipe)) {
            for (int[] one : parts.get(recipe)) {
                told = one[0] == fat ? one : told;
            }
            fault(told != null && told[1] + (long) n > 100, 3);
            fault(told == null && parts.get(recipe).size() == 8, 8);
        }
        if (refuses()) {
            return NONE;
        }
        if (told == null) {
            parts.get(recipe).add(new int[] {fat, n});
        } else {
            told[1] += n;
        }
        return parts.get(recipe).stream().mapToInt(one -> one[1]).sum();
    }

    public int lye(int recipe, int weight, int strength) {
        if (!isRecipe(recipe) || out(weight, 1, 1000000) || out(strength, 1, 1000) || parts.get(recipe).isEmpty()) {
            return NONE;
        }
        BigInteger needs = BigInteger.ZERO;
        BigInteger all = BigInteger.ZERO;
        for (int[] one : parts.get(recipe)) {
            if (numberOf(one[0], 0) == NONE) {
                return NONE;
            }
            needs = needs.add(BigInteger.valueOf((long) one[1] * numberOf(one[0], 0)));
            all = all.add(BigInteger.valueOf(one[1]));
        }
        return BigInteger.valueOf(weight).multiply(needs).multiply(BigInteger.valueOf(100 - spares.get(recipe)))
                .multiply(BigInteger.valueOf(1000))
                .divide(all.multiply(BigInteger.valueOf(1000000)).multiply(BigInteger.valueOf(strength)))
                .intValueExact();
    }

    public int lot(int good, float grams, int price, int strength) {
        acts.add(o -> o.lot(good, grams, price, strength));
        fault(!isGood(good), 1);
        fault(out(price, 0, 1000000), 3);
        fault(good == LYE && out(strength, 1, 1000), 3);
        faultOfReading(grams, 1);
        fault(lots.size() == 400, 8);
        if (refuses()) {
            return NONE;
        }
        LotOf lot = new LotOf();
        lot.good = good;
        lot.weight = tenths(grams);
        lot.coins = price;
        lot.price = price;
        lot.strength = good == LYE ? strength : 0;
        lot.came = day;
        lots.add(lot);
        readRest(grams);
        return lots.size();
    }

    public int spill(int good, float grams) {
        acts.add(o -> o.spill(good, grams));
        fault(!isGood(good), 1);
        faultOfReading(grams, 1);
        fault(reads(grams) && stock(good) < tenths(grams), 6);
        if (refuses()) {
            return NONE;
        }
        readRest(grams);
        spilt.add((int) take(good, tenths(grams))[2]);
        return spilt.get(spilt.size() - 1);
    }

    public int batch(int kind, int recipe) {
        acts.add(o -> o.batch(kind, recipe));
        fault(!isRecipe(recipe), 1);
        fault(out(kind, 0, 4), 2);
        fault(batches.size() == 400, 8);
        if (refuses()) {
            return NONE;
        }
        BatchOf b = new BatchOf();
        b.number = batches.size() + 1;
        b.kind = kind;
        b.recipe = recipe;
        batches.add(b);
        return b.number;
    }

    public int weigh(int batch, int good, float grams) {
        acts.add(o -> o.weigh(batch, good, grams));
        BatchOf b = find(batch);
        fault(b == null || !isGood(good), 1);
        faultOfReading(grams, 1);
        if (b != null) {
            fault(b.state != 0 && !(b.state == 3 && isSoap(b) && isOff(b)), 2);
            fault(good == LYE && !isSoap(b), 2);
            fault(reads(grams) && sum(b, 0) + tenths(grams) > 1000000, 3);
            fault(good != LYE && isSoap(b) && numberOf(good, 0) == NONE, 5);
        }
        fault(reads(grams) && stock(good) < tenths(grams), 6);
        if (refuses()) {
            return NONE;
        }
        readRest(grams);
        long[] taken = take(good, tenths(grams));
        long n = taken[0] * Math.max(0, numberOf(good, 0));
        b.weighed.add(new long[] {taken[0], n, good == LYE ? 10 * taken[1] : 0, taken[2]});
        b.cureDays.add(day);
        return (int) taken[0];
    }

    public boolean mix(int batch) {
        acts.add(o -> o.mix(batch));
        BatchOf b = find(batch);
        fault(b == null, 1);
        fault(b != null && b.state != 0, 2);
        fault(b != null && sum(b, 0) == 0, 6);
        if (refuses()) {
            return false;
        }
        b.state = 1;
        return true;
    }

    public int mould(int place) {
        acts.add(o -> o.mould(place));
        fault(out(place, 0, 39), 1);
        fault(!out(place, 0, 39) && rack[place] > 0, 2);
        if (refuses()) {
            return NONE;
        }
        rack[place] = NONE - rack[place];
        return rack[place] + 1;
    }

    public boolean pour(int batch, int place) {
        acts.add(o -> o.pour(batch, place));
        BatchOf b = find(batch);
        fault(b == null || out(place, 0, 39), 1);
        fault(b != null && b.state != 1, 2);
        fault(!out(place, 0, 39) && rack[place] != 0, 2);
        if (refuses()) {
            return false;
        }
        b.state = 2;
        rack[place] = batch;
        return true;
    }

    public boolean cut(int batch, int pieces, int more) {
        acts.add(o -> o.cut(batch, pieces, more));
        BatchOf b = find(batch);
        fault(b == null, 1);
        fault(b != null && b.state != 2, 2);
        fault(out(pieces, 1, 500), 3);
        fault(b != null && isSoap(b) && out(more, 0, 400), 3);
        fault(b != null && isCandle(b) && out(more, 1, 200), 3);
        if (refuses()) {
            return false;
        }
        rack[placeOf(rack, batch)] = 0;
        b.state = 3;
        b.pieces = pieces;
        b.more = more;
        b.cutOn = day;
        b.cureDays.add(day);
        return true;
    }

    public int boil(int batch) {
        acts.add(o -> o.boil(batch));
        BatchOf b = find(batch);
        fault(b == null, 1);
        fault(b != null && (b.kind != 2 || b.state != 3), 2);
        if (refuses()) {
            return NONE;
        }
        b.cureDays.add(day);
        return endOf(b);
    }

    public int with(int first, int second) {
        acts.add(o -> o.with(first, second));
        BatchOf a = find(first);
        BatchOf b = find(second);
        fault(a == null || b == null, 1);
        if (a != null && b != null) {
            boolean open = a.state == 0 && b.state == 0;
            boolean mixed = a.state == 1 && b.state == 1;
            fault(a == b || !isSoap(a) || !isSoap(b) || !(open || mixed), 2);
            fault(sum(a, 0) + sum(b, 0) > 1000000, 3);
        }
        if (refuses()) {
            return NONE;
        }
        a.weighed.addAll(b.weighed);
        b.weighed.clear();
        b.state = 4;
        a.cureDays.add(day);
        return (int) sum(a, 0);
    }

    public int sell(int batch, int n, int coins) {
        acts.add(o -> o.sell(batch, n, coins));
        BatchOf b = find(batch);
        fault(b == null, 1);
        fault(n < 1 || out(coins, 0, 1000000), 3);
        if (b != null) {
            fault(b.state != 3, 2);
            fault(n > (long) b.pieces - b.sold, 6);
            fault(isSoap(b) && (isOff(b) || day < endOf(b)), 7);
        }
        if (refuses()) {
            return NONE;
        }
        b.sold += n;
        b.sales.add(coins);
        if (b.sold == b.pieces) {
            b.state = 4;
        }
        return b.pieces - b.sold;
    }

    public int trial(int wick, int width) {
        acts.add(o -> o.trial(wick, width));
        fault(out(wick, 0, 9) || out(width, 1, 200), 3);
        fault(trials.size() == 100, 8);
        if (refuses()) {
            return NONE;
        }
        TrialOf t = new TrialOf();
        t.wick = wick;
        t.width = width;
        trials.add(t);
        return trials.size();
    }

    public int hour(int trial, float grams) {
        acts.add(o -> o.hour(trial, grams));
        TrialOf t = findTrial(trial);
        fault(t == null, 1);
        faultOfReading(grams, 0);
        fault(t != null && t.lost.size() == 200, 8);
        if (refuses()) {
            return NONE;
        }
        readRest(grams);
        t.lost.add(tenths(grams));
        return t.lost.size();
    }

    public boolean torn(int trial, int n) {
        acts.add(o -> o.torn(trial, n));
        TrialOf t = findTrial(trial);
        fault(t == null, 1);
        fault(t != null && out(n, 0, t.lost.size()), 3);
        if (refuses()) {
            return false;
        }
        t.lost = new ArrayList<>(t.lost.subList(0, n));
        return true;
    }

    public boolean loss(int loss) {
        acts.add(o -> o.loss(loss));
        fault(out(loss, 0, 20), 3);
        if (refuses()) {
            return false;
        }
        this.loss = loss;
        return true;
    }

    public void image() {
        kept = new ArrayList<>(acts);
        status = 0;
    }

    public boolean back() {
        fault(kept == null, 2);
        if (refuses()) {
            return false;
        }
        begin();
        for (Consumer<Oracle> act : kept) {
            act.accept(this);
        }
        status = 0;
        return true;
    }

    // ---- what only tells

    public int hours(int wick, int width, int weight) {
        if (out(weight, 0, 1000000)) {
            return NONE;
        }
        List<TrialOf> of = trials.stream().filter(t -> t.wick == wick && t.width == width).toList();
        int most = of.stream().mapToInt(t -> t.lost.size()).max().orElse(NONE);
        for (int h = most; h > 0; h--) {
            int first = h;
            if (of.stream().allMatch(t -> t.lost.stream().limit(first).mapToInt(l -> l).sum() <= weight)) {
                return h;
            }
        }
        return Math.min(most, 0);
    }

    public int burns(int batch, int wick) {
        BatchOf b = find(batch);
        if (b == null || !isCandle(b) || b.state != 3) {
            return NONE;
        }
        int lightest = Integer.MAX_VALUE;
        for (int k = b.sold; k < b.pieces; k++) {
            lightest = Math.min(lightest, piece(batch, k));
        }
        return hours(wick, b.more, lightest);
    }

    public int dip(int first, int less, int weight) {
        if (out(first, 0, 1000000) || out(less, 0, 1000000) || out(weight, 0, 1000000)) {
            return NONE;
        }
        long together = 0;
        int layers = 0;
        for (long layer = first; together < weight; layer -= less) {
            if (layer <= 0) {
                return NONE;
            }
            together += layer;
            layers++;
        }
        return layers;
    }

    public long even(int batch, int what) {
        BatchOf b = find(batch);
        if (b == null || out(what, 0, 2)) {
            return NONE;
        }
        long[] all = {sum(b, 1) - sum(b, 2), sum(b, 1), isOff(b) ? 1 : 0};
        return all[what];
    }

    public int more(int batch, int fat) {
        BatchOf b = find(batch);
        int need = numberOf(fat, 0);
        if (b == null || !isSoap(b) || need <= 0) {
            return NONE;
        }
        int spare = spares.get(b.recipe);
        if (below(sum(b, 1) + 1000000L * need, sum(b, 2), spare)) {
            return NONE;
        }
        int least = 1000000;
        for (int step = 1 << 20; step > 0; step /= 2) {
            if (least - step >= 0 && !below(sum(b, 1) + (long) (least - step) * need, sum(b, 2), spare)) {
                least -= step;
            }
        }
        return least;
    }

    public int save(int spare, int what) {
        if (out(spare, 0, 50) || out(what, 0, 1)) {
            return NONE;
        }
        List<BatchOf> mixed = batches.stream().filter(b -> isSoap(b) && b.state == 1).toList();
        TreeSet<Long> found = new TreeSet<>();
        for (BatchOf a : mixed) {
            for (BatchOf b : mixed) {
                long weight = sum(a, 0) + sum(b, 0);
                if (a.number < b.number && weight <= 1000000
                        && !below(sum(a, 1) + sum(b, 1), sum(a, 2) + sum(b, 2), spare)) {
                    found.add((weight * 1000 + a.number) * 1000 + b.number);
                }
            }
        }
        if (found.isEmpty()) {
            return NONE;
        }
        return (int) (what == 0 ? found.first() / 1000 % 1000 : found.first() % 1000);
    }

    public int ready(int batch) {
        BatchOf b = find(batch);
        return b == null || !isSoap(b) || b.state != 3 ? NONE : endOf(b);
    }

    public int piece(int batch, int k) {
        BatchOf b = find(batch);
        if (b == null || b.state != 3 || out(k, 0, b.pieces - 1)) {
            return NONE;
        }
        BigInteger w = BigInteger.valueOf(sum(b, 0));
        BigInteger n = BigInteger.valueOf(b.pieces);
        BigInteger piece = w.multiply(BigInteger.valueOf(k + 1)).divide(n)
                .subtract(w.multiply(BigInteger.valueOf(k)).divide(n));
        if (isSoap(b)) {
            piece = piece.multiply(BigInteger.valueOf(1000L - (long) loss * (day - b.cutOn)))
                    .divide(BigInteger.valueOf(1000)).max(BigInteger.ZERO);
        }
        return piece.intValueExact();
    }

    public int place(int place) {
        return out(place, 0, 39) ? NONE : rack[place];
    }

    public int told(int batch, int what) {
        BatchOf b = find(batch);
        if (b == null || out(what, 0, 10)) {
            return NONE;
        }
        int[] all = {b.kind, b.state, (int) sum(b, 0), (int) sum(b, 3), b.recipe, placeOf(rack, batch), b.pieces,
            b.pieces - b.sold, b.cutOn, isCandle(b) ? b.more : 0, b.sales.stream().mapToInt(s -> s).sum()};
        return all[what];
    }

    public int left(int lot, int what) {
        if (out(lot, 1, lots.size()) || out(what, 0, 4)) {
            return NONE;
        }
        LotOf l = lots.get(lot - 1);
        int[] all = {l.good, l.weight, l.coins, strengthOf(l), l.came};
        return all[what];
    }

    public long stock(int good) {
        return isGood(good) ? lots.stream().filter(l -> l.good == good).mapToLong(l -> l.weight).sum() : NONE;
    }

    public long count(int what) {
        if (out(what, 0, 12)) {
            return NONE;
        }
        long[] all = {day, fats.size(), spares.size(), lots.size(), batches.size(), trials.size(),
            lots.stream().mapToLong(l -> l.price).sum(), lots.stream().mapToLong(l -> l.coins).sum(),
            batches.stream().mapToLong(b -> sum(b, 3)).sum(), spilt.stream().mapToLong(s -> s).sum(),
            batches.stream().mapToLong(b -> b.sales.stream().mapToLong(s -> s).sum()).sum(), rest, loss};
        return all[what];
    }

    public int status() {
        return status;
    }

    public int check(int batch, int weight, long n, long p) {
        BatchOf b = find(batch);
        if (b == null) {
            return NONE;
        }
        return sum(b, 0) != weight ? 1 : sum(b, 1) != n ? 2 : sum(b, 2) != p ? 3 : 0;
    }
}
