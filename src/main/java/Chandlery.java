import java.util.ArrayList;
import java.util.Arrays;

/**
 * A chandler's works for soaps and candles. The words in capitals in the comments are those of the
 * document's section 'Terms'.
 */
public final class Chandlery {
    public static final int NONE = -1;

    // STATUS, numbered in the order in which it is decided.
    private static final int DONE = 0;
    private static final int NO_SUCH = 1;
    private static final int NOT_AS_WANTED = 2;
    private static final int OUT_OF_BOUNDS = 3;
    private static final int NOT_READ = 4;
    private static final int MISSING = 5;
    private static final int NOT_SO_MUCH = 6;
    private static final int NOT_READY = 7;
    private static final int NO_ROOM = 8;

    private static final int PLAIN = 0;
    private static final int SOAP = 1;
    private static final int TWICE = 2;
    private static final int CANDLE = 3;
    private static final int DIPPED = 4;

    private static final int OPEN = 0;
    private static final int MIXED = 1;
    private static final int POURED = 2;
    private static final int CUT = 3;
    private static final int GONE = 4;

    private static final int MOST_FATS = 60;
    private static final int LYE = MOST_FATS;
    private static final int MOST_NUMBERS = 5;
    private static final int MOST_RECIPES = 100;
    private static final int MOST_KINDS_OF_FAT = 8;
    private static final int MOST_PARTS = 100;
    private static final int MOST_SPARE = 50;
    private static final int MOST_LOTS = 400;
    private static final int MOST_BATCHES = 400;
    private static final int MOST_PIECES = 500;
    private static final int MOST_CURE = 400;
    private static final int MOST_TRIALS = 100;
    private static final int MOST_HOURS = 200;
    private static final int MOST_WICK = 9;
    private static final int MOST_WIDTH = 200;
    private static final int MOST_WEIGHT = 1_000_000;
    private static final int MOST_COINS = 1_000_000;
    private static final int MOST_LOSS = 20;
    private static final int PLACES = 40;
    private static final int LAST_DAY = 30_000;
    private static final int AN_EMPTY_MOULD = 0;

    private final Works now = new Works();
    private final Works kept = new Works();
    private boolean isKept = false;
    private int status = DONE;

    public Chandlery() {
    }

    // ---- the DAY, FATS, the SCALE, RECIPES

    public int day(int n) {
        if (!isWithin(n, 1, 1_000) || now.day + n > LAST_DAY) {
            return refused(OUT_OF_BOUNDS);
        }
        now.day += n;
        return done(now.day);
    }

    public int fat(int numbers) {
        if (!isWithin(numbers, 0, MOST_NUMBERS)) {
            return refused(OUT_OF_BOUNDS);
        }
        if (now.fats.isFull()) {
            return refused(NO_ROOM);
        }
        return done(now.fats.put(new Fat(numbers)));
    }

    public boolean row(int fat, int i, int v) {
        Fat changed = now.fats.numbered(fat);
        if (changed == null) {
            return denied(NO_SUCH);
        }
        if (!isWithin(v, 0, 9_999)) {
            return denied(OUT_OF_BOUNDS);
        }
        if (!changed.hasNumber(i)) {
            return denied(MISSING);
        }
        changed.numbers[i] = v;
        return did();
    }

    public boolean tear(int fat) {
        Fat torn = now.fats.numbered(fat);
        if (torn == null) {
            return denied(NO_SUCH);
        }
        if (torn.isRowMissing) {
            return denied(MISSING);
        }
        torn.isRowMissing = true;
        return did();
    }

    public void scale(boolean works) {
        now.isScaleWorking = works;
        did();
    }

    public int recipe(int spare) {
        if (!isWithin(spare, 0, MOST_SPARE)) {
            return refused(OUT_OF_BOUNDS);
        }
        if (now.recipes.isFull()) {
            return refused(NO_ROOM);
        }
        return done(now.recipes.put(new Recipe(spare)));
    }

    public int part(int recipe, int fat, int parts) {
        Recipe changed = now.recipes.numbered(recipe);
        if (changed == null || now.fats.numbered(fat) == null) {
            return refused(NO_SUCH);
        }
        int slot = changed.slotOf(fat);
        if (!isWithin(parts, 1, MOST_PARTS) || changed.partsIn(slot) + parts > MOST_PARTS) {
            return refused(OUT_OF_BOUNDS);
        }
        if (slot >= MOST_KINDS_OF_FAT) {
            return refused(NO_ROOM);
        }
        changed.addParts(slot, fat, parts);
        return done(changed.allParts());
    }

    public int lye(int recipe, int weight, int strength) {
        Recipe wanting = now.recipes.numbered(recipe);
        if (wanting == null || !isWithin(weight, 1, MOST_WEIGHT) || !isWithin(strength, 1, 1_000)) {
            return NONE;
        }
        return now.lyeFor(wanting, weight, strength);
    }

    // ---- LOTS

    public int lot(int good, float grams, int price, int strength) {
        if (!now.hasGood(good)) {
            return refused(NO_SUCH);
        }
        if (!isWithin(price, 0, MOST_COINS) || (good == LYE && !isWithin(strength, 1, 1_000))) {
            return refused(OUT_OF_BOUNDS);
        }
        int fault = now.readingFault(grams, 1);
        if (fault != DONE) {
            return refused(fault);
        }
        if (now.lots.isFull()) {
            return refused(NO_ROOM);
        }
        now.rest = restOf(grams);
        now.cost += price;
        int itsStrength = good == LYE ? strength : 0;
        return done(now.lots.put(new Lot(good, tenthsOf(grams), price, itsStrength, now.day)));
    }

    public int spill(int good, float grams) {
        if (!now.hasGood(good)) {
            return refused(NO_SUCH);
        }
        int fault = now.readingFault(grams, 1);
        if (fault != DONE) {
            return refused(fault);
        }
        int tenths = tenthsOf(grams);
        if (now.stockOf(good) < tenths) {
            return refused(NOT_SO_MUCH);
        }
        now.rest = restOf(grams);
        int coins = now.take(good, tenths).coins;
        now.spilt += coins;
        return done(coins);
    }

    // ---- BATCHES and the RACK

    public int batch(int kind, int recipe) {
        Recipe by = now.recipes.numbered(recipe);
        if (by == null) {
            return refused(NO_SUCH);
        }
        if (!isWithin(kind, PLAIN, DIPPED)) {
            return refused(NOT_AS_WANTED);
        }
        if (now.batches.isFull()) {
            return refused(NO_ROOM);
        }
        return done(now.batches.put(new Batch(kind, recipe, by.spare)));
    }

    public int weigh(int batch, int good, float grams) {
        Batch into = now.batches.numbered(batch);
        if (into == null || !now.hasGood(good)) {
            return refused(NO_SUCH);
        }
        if (!into.mayTakeGoods() || (good == LYE && !into.isSoap())) {
            return refused(NOT_AS_WANTED);
        }
        int fault = now.readingFault(grams, 1);
        if (fault == DONE && into.weight + tenthsOf(grams) > MOST_WEIGHT) {
            fault = OUT_OF_BOUNDS;
        }
        if (fault != DONE) {
            return refused(fault);
        }
        int need = now.needOf(good);
        if (need == NONE && good != LYE && into.isSoap()) {
            return refused(MISSING);
        }
        int tenths = tenthsOf(grams);
        if (now.stockOf(good) < tenths) {
            return refused(NOT_SO_MUCH);
        }
        now.rest = restOf(grams);
        into.receive(tenths, need, now.take(good, tenths));
        into.cureSince = now.day;
        return done(tenths);
    }

    public boolean mix(int batch) {
        Batch mixed = now.batches.numbered(batch);
        if (mixed == null) {
            return denied(NO_SUCH);
        }
        if (mixed.state != OPEN) {
            return denied(NOT_AS_WANTED);
        }
        if (mixed.weight == 0) {
            return denied(NOT_SO_MUCH);
        }
        mixed.state = MIXED;
        return did();
    }

    public int mould(int place) {
        if (!isPlace(place)) {
            return refused(NO_SUCH);
        }
        int there = now.rack[place];
        if (there != NONE && there != AN_EMPTY_MOULD) {
            return refused(NOT_AS_WANTED);
        }
        boolean comes = there == NONE;
        now.rack[place] = comes ? AN_EMPTY_MOULD : NONE;
        return done(comes ? 1 : 0);
    }

    public boolean pour(int batch, int place) {
        Batch poured = now.batches.numbered(batch);
        if (poured == null || !isPlace(place)) {
            return denied(NO_SUCH);
        }
        if (poured.state != MIXED || now.rack[place] != AN_EMPTY_MOULD) {
            return denied(NOT_AS_WANTED);
        }
        poured.state = POURED;
        poured.place = place;
        now.rack[place] = batch;
        return did();
    }

    public boolean cut(int batch, int pieces, int more) {
        Batch cut = now.batches.numbered(batch);
        if (cut == null) {
            return denied(NO_SUCH);
        }
        if (cut.state != POURED) {
            return denied(NOT_AS_WANTED);
        }
        if (!isWithin(pieces, 1, MOST_PIECES)
                || (cut.isSoap() && !isWithin(more, 0, MOST_CURE))
                || (cut.isCandle() && !isWithin(more, 1, MOST_WIDTH))) {
            return denied(OUT_OF_BOUNDS);
        }
        if (isPlace(cut.place)) {
            now.rack[cut.place] = AN_EMPTY_MOULD;
        }
        cut.cutInto(pieces, more, now.day);
        return did();
    }

    public int boil(int batch) {
        Batch boiled = now.batches.numbered(batch);
        if (boiled == null) {
            return refused(NO_SUCH);
        }
        if (boiled.kind != TWICE || boiled.state != CUT) {
            return refused(NOT_AS_WANTED);
        }
        boiled.cureSince = now.day;
        return done(boiled.endOfCure());
    }

    public int with(int first, int second) {
        Batch into = now.batches.numbered(first);
        Batch from = now.batches.numbered(second);
        if (into == null || from == null) {
            return refused(NO_SUCH);
        }
        if (first == second || !into.mayJoin(from)) {
            return refused(NOT_AS_WANTED);
        }
        if (into.weight + from.weight > MOST_WEIGHT) {
            return refused(OUT_OF_BOUNDS);
        }
        into.swallow(from);
        return done(into.weight);
    }

    public int sell(int batch, int n, int coins) {
        Batch sold = now.batches.numbered(batch);
        if (sold == null) {
            return refused(NO_SUCH);
        }
        if (sold.state != CUT) {
            return refused(NOT_AS_WANTED);
        }
        if (n < 1 || !isWithin(coins, 0, MOST_COINS)) {
            return refused(OUT_OF_BOUNDS);
        }
        if (n > sold.unsold()) {
            return refused(NOT_SO_MUCH);
        }
        if (!sold.isReadyOn(now.day)) {
            return refused(NOT_READY);
        }
        sold.giveAway(n, coins);
        now.got += coins;
        return done(sold.unsold());
    }

    // ---- TRIALS

    public int trial(int wick, int width) {
        if (!isWithin(wick, 0, MOST_WICK) || !isWithin(width, 1, MOST_WIDTH)) {
            return refused(OUT_OF_BOUNDS);
        }
        if (now.trials.isFull()) {
            return refused(NO_ROOM);
        }
        return done(now.trials.put(new Trial(wick, width)));
    }

    public int hour(int trial, float grams) {
        Trial read = now.trials.numbered(trial);
        if (read == null) {
            return refused(NO_SUCH);
        }
        int fault = now.readingFault(grams, 0);
        if (fault != DONE) {
            return refused(fault);
        }
        if (read.hoursRead >= MOST_HOURS) {
            return refused(NO_ROOM);
        }
        now.rest = restOf(grams);
        read.addHour(tenthsOf(grams));
        return done(read.hoursRead);
    }

    public boolean torn(int trial, int n) {
        Trial torn = now.trials.numbered(trial);
        if (torn == null) {
            return denied(NO_SUCH);
        }
        if (!isWithin(n, 0, torn.hoursRead)) {
            return denied(OUT_OF_BOUNDS);
        }
        torn.hoursRead = n;
        return did();
    }

    public int hours(int wick, int width, int weight) {
        if (!isWithin(wick, 0, MOST_WICK) || !isWithin(width, 1, MOST_WIDTH)
                || !isWithin(weight, 0, MOST_WEIGHT)) {
            return NONE;
        }
        return now.hoursOf(wick, width, weight);
    }

    public int burns(int batch, int wick) {
        Batch burnt = now.batches.numbered(batch);
        if (burnt == null || !burnt.isCandle() || burnt.state != CUT) {
            return NONE;
        }
        return now.hoursOf(wick, burnt.width, burnt.lightestUnsold());
    }

    public int dip(int first, int less, int weight) {
        if (!isWithin(first, 0, MOST_WEIGHT) || !isWithin(less, 0, MOST_WEIGHT)
                || !isWithin(weight, 0, MOST_WEIGHT)) {
            return NONE;
        }
        return fewestLayers(first, less, weight);
    }

    // ---- what only tells

    public long even(int batch, int what) {
        Batch asked = now.batches.numbered(batch);
        if (asked == null) {
            return NONE;
        }
        switch (what) {
            case 0:
                return asked.lyeWanted - asked.lyePut;
            case 1:
                return asked.lyeWanted;
            case 2:
                return asked.isOff() ? 1 : 0;
            default:
                return NONE;
        }
    }

    public int more(int batch, int fat) {
        Batch mended = now.batches.numbered(batch);
        int need = now.needOf(fat);
        if (mended == null || !mended.isSoap() || need < 1) {
            return NONE;
        }
        long wanted = mended.wantedOf(need);
        return wanted > MOST_WEIGHT ? NONE : (int) wanted;
    }

    public int save(int spare, int what) {
        if (!isWithin(spare, 0, MOST_SPARE) || !isWithin(what, 0, 1)) {
            return NONE;
        }
        return now.lightestPair(spare, what == 0);
    }

    public int ready(int batch) {
        Batch asked = now.batches.numbered(batch);
        if (asked == null || !asked.isSoap() || asked.state != CUT) {
            return NONE;
        }
        return asked.endOfCure();
    }

    public int piece(int batch, int k) {
        Batch asked = now.batches.numbered(batch);
        if (asked == null || asked.state != CUT || !isWithin(k, 0, asked.pieces - 1)) {
            return NONE;
        }
        return asked.pieceOn(now.day, k, now.loss);
    }

    public int place(int place) {
        return isPlace(place) ? now.rack[place] : NONE;
    }

    public int told(int batch, int what) {
        Batch asked = now.batches.numbered(batch);
        return asked == null ? NONE : asked.fact(what);
    }

    public int left(int lot, int what) {
        Lot asked = now.lots.numbered(lot);
        return asked == null ? NONE : asked.fact(what, now.day);
    }

    public long stock(int good) {
        return now.hasGood(good) ? now.stockOf(good) : NONE;
    }

    public long count(int what) {
        return now.total(what);
    }

    public boolean loss(int loss) {
        if (!isWithin(loss, 0, MOST_LOSS)) {
            return denied(OUT_OF_BOUNDS);
        }
        now.loss = loss;
        return did();
    }

    public int status() {
        return status;
    }

    public int check(int batch, int weight, long n, long p) {
        Batch asked = now.batches.numbered(batch);
        if (asked == null) {
            return NONE;
        }
        if (asked.weight != weight) {
            return 1;
        }
        if (asked.lyeWanted != n) {
            return 2;
        }
        return asked.lyePut != p ? 3 : 0;
    }

    // ---- keeping

    public void image() {
        kept.become(now);
        isKept = true;
        did();
    }

    public boolean back() {
        if (!isKept) {
            return denied(NOT_AS_WANTED);
        }
        now.become(kept);
        return did();
    }

    // ---- how acts end

    private int refused(int why) {
        status = why;
        return NONE;
    }

    private boolean denied(int why) {
        status = why;
        return false;
    }

    private int done(int answer) {
        status = DONE;
        return answer;
    }

    private boolean did() {
        status = DONE;
        return true;
    }

    // ---- numbers

    private static boolean isWithin(int v, int least, int most) {
        return v >= least && v <= most;
    }

    private static boolean isPlace(int place) {
        return isWithin(place, 0, PLACES - 1);
    }

    private static float readOf(float grams) {
        return grams * 10f;
    }

    private static int tenthsOf(float grams) {
        return (int) readOf(grams);
    }

    private static int restOf(float grams) {
        float read = readOf(grams);
        return (int) ((read - (float) (int) read) * 1_000f);
    }

    private static boolean isBelowSpare(long wanted, long put, int spare) {
        return wanted == 0 || (wanted - put) * 100 < wanted * spare;
    }

    private static long dividedUp(long v, long by) {
        return by < 1 ? 0 : (v + by - 1) / by;
    }

    private static int fewestLayers(int first, int less, int weight) {
        if (weight == 0) {
            return 0;
        }
        // Further layers weigh nothing, or the weight is reached before them.
        int most = less == 0 ? weight : first / less + 1;
        if (layersTogether(first, less, most) < weight) {
            return NONE;
        }
        int low = 1;
        int high = most;
        for (int step = 0; step < 32 && low < high; step++) {
            int middle = (low + high) / 2;
            if (layersTogether(first, less, middle) < weight) {
                low = middle + 1;
            } else {
                high = middle;
            }
        }
        return low;
    }

    private static long layersTogether(long first, long less, long layers) {
        return layers * first - less * (layers * (layers - 1) / 2);
    }

    // ---- what the works hold

    /** A thing that can take over all that another one of its class holds. */
    private interface Item<T> {
        T twin();

        void become(T other);
    }

    /** Things that are numbered in turn as they come, and never leave but by back(). */
    private static final class Shelf<T extends Item<T>> {
        private final ArrayList<T> items = new ArrayList<>();
        private final int firstNumber;
        private final int room;

        Shelf(int firstNumber, int room) {
            this.firstNumber = firstNumber;
            this.room = room;
        }

        int size() {
            return items.size();
        }

        boolean isFull() {
            return items.size() >= room;
        }

        T numbered(int number) {
            return at(number - firstNumber);
        }

        T at(int index) {
            return index >= 0 && index < items.size() ? items.get(index) : null;
        }

        int put(T item) {
            items.add(item);
            return items.size() - 1 + firstNumber;
        }

        /** Uses the items again that are here, so that image() and back() make few new ones. */
        void become(Shelf<T> other) {
            for (int i = items.size() - 1; i >= other.items.size(); i--) {
                items.remove(i);
            }
            for (int i = 0; i < other.items.size(); i++) {
                T item = other.items.get(i);
                if (i < items.size()) {
                    items.get(i).become(item);
                } else {
                    items.add(item.twin());
                }
            }
        }
    }

    private static final class Fat implements Item<Fat> {
        final int[] numbers = new int[MOST_NUMBERS];
        int length;
        boolean isRowMissing = false;

        Fat(int length) {
            this.length = length;
        }

        boolean hasNumber(int i) {
            return !isRowMissing && i >= 0 && i < length && i < numbers.length;
        }

        int need() {
            return hasNumber(0) ? numbers[0] : NONE;
        }

        public Fat twin() {
            Fat twin = new Fat(length);
            twin.become(this);
            return twin;
        }

        public void become(Fat other) {
            length = other.length;
            isRowMissing = other.isRowMissing;
            System.arraycopy(other.numbers, 0, numbers, 0, MOST_NUMBERS);
        }
    }

    private static final class Recipe implements Item<Recipe> {
        final int[] fats = new int[MOST_KINDS_OF_FAT];
        final int[] parts = new int[MOST_KINDS_OF_FAT];
        int kindsOfFat = 0;
        int spare;

        Recipe(int spare) {
            this.spare = spare;
        }

        /** Where a FAT's PARTS stand, or would stand if it were told next. */
        int slotOf(int fat) {
            for (int i = 0; i < kindsOfFat && i < MOST_KINDS_OF_FAT; i++) {
                if (fats[i] == fat) {
                    return i;
                }
            }
            return kindsOfFat;
        }

        int partsIn(int slot) {
            return slot >= 0 && slot < kindsOfFat && slot < MOST_KINDS_OF_FAT ? parts[slot] : 0;
        }

        void addParts(int slot, int fat, int more) {
            if (slot < 0 || slot >= MOST_KINDS_OF_FAT) {
                return;
            }
            if (slot == kindsOfFat) {
                fats[slot] = fat;
                parts[slot] = 0;
                kindsOfFat++;
            }
            parts[slot] += more;
        }

        int allParts() {
            int all = 0;
            for (int i = 0; i < kindsOfFat && i < MOST_KINDS_OF_FAT; i++) {
                all += parts[i];
            }
            return all;
        }

        public Recipe twin() {
            Recipe twin = new Recipe(spare);
            twin.become(this);
            return twin;
        }

        public void become(Recipe other) {
            spare = other.spare;
            kindsOfFat = other.kindsOfFat;
            System.arraycopy(other.fats, 0, fats, 0, MOST_KINDS_OF_FAT);
            System.arraycopy(other.parts, 0, parts, 0, MOST_KINDS_OF_FAT);
        }
    }

    private static final class Lot implements Item<Lot> {
        int good;
        int weight;
        int coins;
        int strengthAtFirst;
        int came;

        Lot(int good, int weight, int coins, int strengthAtFirst, int came) {
            this.good = good;
            this.weight = weight;
            this.coins = coins;
            this.strengthAtFirst = strengthAtFirst;
            this.came = came;
        }

        int strengthOn(int day) {
            return Math.max(0, strengthAtFirst - (day - came) / 10);
        }

        /** Takes so much away, which must be here: the coins that it bears. */
        int takeAway(int tenths) {
            int borne = weight < 1 ? 0 : (int) ((long) coins * tenths / weight);
            weight -= tenths;
            coins -= borne;
            return borne;
        }

        int fact(int what, int day) {
            switch (what) {
                case 0:
                    return good;
                case 1:
                    return weight;
                case 2:
                    return coins;
                case 3:
                    return strengthOn(day);
                case 4:
                    return came;
                default:
                    return NONE;
            }
        }

        public Lot twin() {
            return new Lot(good, weight, coins, strengthAtFirst, came);
        }

        public void become(Lot other) {
            good = other.good;
            weight = other.weight;
            coins = other.coins;
            strengthAtFirst = other.strengthAtFirst;
            came = other.came;
        }
    }

    /** What was taken of a GOOD: the coins that it bore, and its weight times STRENGTH. */
    private static final class Taken {
        int coins = 0;
        long weightTimesStrength = 0;
    }

    private static final class Batch implements Item<Batch> {
        int kind;
        int recipe;
        int spare;
        int state = OPEN;
        int weight = 0;
        int coins = 0;
        long lyeWanted = 0; // the document's N
        long lyePut = 0; // the document's P
        int place = NONE;
        int pieces = 0;
        int sold = 0;
        int cutOn = NONE;
        int cure = 0;
        // One day stands for cutting, boiling and weighing: the DAY never goes down, so the latest
        // of these acts is also the last that was done. with() need not set it, as what it fills
        // is CUT later.
        int cureSince = 0;
        int width = 0;
        int coinsGot = 0;

        Batch(int kind, int recipe, int spare) {
            this.kind = kind;
            this.recipe = recipe;
            this.spare = spare;
        }

        boolean isSoap() {
            return kind == SOAP || kind == TWICE;
        }

        boolean isCandle() {
            return kind == CANDLE || kind == DIPPED;
        }

        boolean isOff() {
            return isSoap() && isBelowSpare(lyeWanted, lyePut, spare);
        }

        boolean mayTakeGoods() {
            return state == OPEN || (state == CUT && isOff());
        }

        void receive(int tenths, int need, Taken taken) {
            weight += tenths;
            coins += taken.coins;
            if (need != NONE) {
                lyeWanted += (long) tenths * need;
            }
            lyePut += 10 * taken.weightTimesStrength;
        }

        boolean mayJoin(Batch other) {
            return isSoap() && other.isSoap() && state == other.state && (state == OPEN || state == MIXED);
        }

        void swallow(Batch other) {
            weight += other.weight;
            coins += other.coins;
            lyeWanted += other.lyeWanted;
            lyePut += other.lyePut;
            other.weight = 0;
            other.coins = 0;
            other.lyeWanted = 0;
            other.lyePut = 0;
            other.state = GONE;
        }

        void cutInto(int n, int more, int day) {
            state = CUT;
            place = NONE;
            pieces = n;
            cutOn = day;
            cureSince = day;
            if (isSoap()) {
                cure = more;
            }
            if (isCandle()) {
                width = more;
            }
        }

        int endOfCure() {
            return cureSince + cure;
        }

        boolean isReadyOn(int day) {
            return !isSoap() || (day >= endOfCure() && !isOff());
        }

        int unsold() {
            return pieces - sold;
        }

        void giveAway(int n, int forCoins) {
            sold += n;
            coinsGot += forCoins;
            if (sold >= pieces) {
                state = GONE;
            }
        }

        int pieceAsCut(int k) {
            if (pieces < 1) {
                return 0;
            }
            long end = (long) weight * (k + 1) / pieces;
            long start = (long) weight * k / pieces;
            return (int) (end - start);
        }

        int pieceOn(int day, int k, int loss) {
            int asCut = pieceAsCut(k);
            if (!isSoap()) {
                return asCut;
            }
            long thousandths = Math.max(0, 1_000 - loss * (day - cutOn));
            return (int) (asCut * thousandths / 1_000);
        }

        int lightestUnsold() {
            int lightest = pieceAsCut(sold);
            for (int k = sold + 1; k < pieces; k++) {
                lightest = Math.min(lightest, pieceAsCut(k));
            }
            return lightest;
        }

        /** The least weight of a FAT of this NEED (1 at least) that has it not OFF any more. */
        long wantedOf(int need) {
            if (!isOff()) {
                return 0;
            }
            long least = Math.max(1, dividedUp(100 * lyePut, 100 - spare));
            return dividedUp(least - lyeWanted, need);
        }

        int fact(int what) {
            switch (what) {
                case 0:
                    return kind;
                case 1:
                    return state;
                case 2:
                    return weight;
                case 3:
                    return coins;
                case 4:
                    return recipe;
                case 5:
                    return place;
                case 6:
                    return pieces;
                case 7:
                    return unsold();
                case 8:
                    return cutOn;
                case 9:
                    return width;
                case 10:
                    return coinsGot;
                default:
                    return NONE;
            }
        }

        public Batch twin() {
            Batch twin = new Batch(kind, recipe, spare);
            twin.become(this);
            return twin;
        }

        public void become(Batch other) {
            kind = other.kind;
            recipe = other.recipe;
            spare = other.spare;
            state = other.state;
            weight = other.weight;
            coins = other.coins;
            lyeWanted = other.lyeWanted;
            lyePut = other.lyePut;
            place = other.place;
            pieces = other.pieces;
            sold = other.sold;
            cutOn = other.cutOn;
            cure = other.cure;
            cureSince = other.cureSince;
            width = other.width;
            coinsGot = other.coinsGot;
        }
    }

    private static final class Trial implements Item<Trial> {
        int wick;
        int width;
        int hoursRead = 0;
        // TENTHS lost from the beginning to the end of each hour.
        final int[] lostBy = new int[MOST_HOURS];

        Trial(int wick, int width) {
            this.wick = wick;
            this.width = width;
        }

        void addHour(int lost) {
            if (hoursRead < 0 || hoursRead >= MOST_HOURS) {
                return;
            }
            lostBy[hoursRead] = lost + (hoursRead > 0 ? lostBy[hoursRead - 1] : 0);
            hoursRead++;
        }

        /** The hours in which no more than a weight was lost; the most of all if all was not more. */
        int hoursWithin(int weight) {
            for (int i = 0; i < hoursRead && i < MOST_HOURS; i++) {
                if (lostBy[i] > weight) {
                    return i;
                }
            }
            return MOST_HOURS;
        }

        public Trial twin() {
            Trial twin = new Trial(wick, width);
            twin.become(this);
            return twin;
        }

        public void become(Trial other) {
            wick = other.wick;
            width = other.width;
            hoursRead = other.hoursRead;
            System.arraycopy(other.lostBy, 0, lostBy, 0, MOST_HOURS);
        }
    }

    /** All that image() keeps and back() brings again. */
    private static final class Works {
        final Shelf<Fat> fats = new Shelf<>(0, MOST_FATS);
        final Shelf<Recipe> recipes = new Shelf<>(0, MOST_RECIPES);
        final Shelf<Lot> lots = new Shelf<>(1, MOST_LOTS);
        final Shelf<Batch> batches = new Shelf<>(1, MOST_BATCHES);
        final Shelf<Trial> trials = new Shelf<>(1, MOST_TRIALS);
        final int[] rack = new int[PLACES];
        boolean isScaleWorking = true;
        int day = 0;
        int loss = 2;
        int rest = 0;
        long cost = 0;
        long spilt = 0;
        long got = 0;

        Works() {
            Arrays.fill(rack, NONE);
        }

        boolean hasGood(int good) {
            return good == LYE || fats.numbered(good) != null;
        }

        int needOf(int good) {
            Fat fat = fats.numbered(good);
            return fat == null ? NONE : fat.need();
        }

        /** What STATUS a reading asks for that must be least TENTHS or more. */
        int readingFault(float grams, int least) {
            // Only what is no number differs from itself.
            if (!isScaleWorking || grams != grams) {
                return NOT_READ;
            }
            float read = readOf(grams);
            // The part behind the point alone does not put a reading above its bound.
            return read >= least && read < MOST_WEIGHT + 1 ? DONE : OUT_OF_BOUNDS;
        }

        int lyeFor(Recipe recipe, long weight, long strength) {
            long needs = 0;
            for (int i = 0; i < recipe.kindsOfFat && i < MOST_KINDS_OF_FAT; i++) {
                int need = needOf(recipe.fats[i]);
                if (need == NONE) {
                    return NONE;
                }
                needs += (long) recipe.parts[i] * need;
            }
            // NEED is a fraction; it is cut but once, together with all the rest.
            long below = 10_000L * 100 * strength * recipe.allParts();
            return below < 1 ? NONE : (int) (weight * needs * (100 - recipe.spare) * 1_000 / below);
        }

        long stockOf(int good) {
            long all = 0;
            for (int i = 0; i < lots.size(); i++) {
                Lot lot = lots.at(i);
                if (lot != null && lot.good == good) {
                    all += lot.weight;
                }
            }
            return all;
        }

        /** Takes so much, which must be there, from the oldest LOTS. */
        Taken take(int good, int tenths) {
            Taken taken = new Taken();
            int missing = tenths;
            for (int i = 0; i < lots.size() && missing > 0; i++) {
                Lot lot = lots.at(i);
                if (lot != null && lot.good == good) {
                    int some = Math.min(missing, lot.weight);
                    taken.coins += lot.takeAway(some);
                    taken.weightTimesStrength += (long) some * lot.strengthOn(day);
                    missing -= some;
                }
            }
            return taken;
        }

        int hoursOf(int wick, int width, int weight) {
            int mostRead = NONE;
            int fewestWithin = MOST_HOURS;
            for (int i = 0; i < trials.size(); i++) {
                Trial trial = trials.at(i);
                if (trial != null && trial.wick == wick && trial.width == width) {
                    mostRead = Math.max(mostRead, trial.hoursRead);
                    fewestWithin = Math.min(fewestWithin, trial.hoursWithin(weight));
                }
            }
            return Math.min(mostRead, fewestWithin);
        }

        int lightestPair(int spare, boolean wantsFirst) {
            int found = NONE;
            int lightest = MOST_WEIGHT + 1;
            for (int i = 0; i < batches.size(); i++) {
                Batch first = batches.at(i);
                if (first == null || first.state != MIXED) {
                    continue;
                }
                for (int j = i + 1; j < batches.size(); j++) {
                    Batch second = batches.at(j);
                    if (second != null && first.mayJoin(second)
                            && first.weight + second.weight < lightest
                            && !isBelowSpare(first.lyeWanted + second.lyeWanted,
                                    first.lyePut + second.lyePut, spare)) {
                        lightest = first.weight + second.weight;
                        found = (wantsFirst ? i : j) + 1;
                    }
                }
            }
            return found;
        }

        long total(int what) {
            switch (what) {
                case 0:
                    return day;
                case 1:
                    return fats.size();
                case 2:
                    return recipes.size();
                case 3:
                    return lots.size();
                case 4:
                    return batches.size();
                case 5:
                    return trials.size();
                case 6:
                    return cost;
                case 7:
                    return coinsInLots();
                case 8:
                    return coinsInBatches();
                case 9:
                    return spilt;
                case 10:
                    return got;
                case 11:
                    return rest;
                case 12:
                    return loss;
                default:
                    return NONE;
            }
        }

        long coinsInLots() {
            long all = 0;
            for (int i = 0; i < lots.size(); i++) {
                Lot lot = lots.at(i);
                if (lot != null) {
                    all += lot.coins;
                }
            }
            return all;
        }

        long coinsInBatches() {
            long all = 0;
            for (int i = 0; i < batches.size(); i++) {
                Batch batch = batches.at(i);
                if (batch != null) {
                    all += batch.coins;
                }
            }
            return all;
        }

        void become(Works other) {
            fats.become(other.fats);
            recipes.become(other.recipes);
            lots.become(other.lots);
            batches.become(other.batches);
            trials.become(other.trials);
            System.arraycopy(other.rack, 0, rack, 0, PLACES);
            isScaleWorking = other.isScaleWorking;
            day = other.day;
            loss = other.loss;
            rest = other.rest;
            cost = other.cost;
            spilt = other.spilt;
            got = other.got;
        }
    }
}
