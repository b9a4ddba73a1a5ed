import java.lang.reflect.Method;
import java.util.Arrays;
import java.util.HashMap;
import java.util.Map;
import java.util.Random;

/**
 * Runs of 512 calls by chance (the same in each run of this test), compared with the Oracle. Some ask for
 * STATUS behind each call, some for all else at their end, some for nothing but what chance brings.
 */
public final class RandomRunsTest {
    private static final int RUNS = 900;
    private static final int CALLS_AHEAD_OF_TELLING = 340;
    private static final String[] SETTING_UP = {
        "fat", "row", "row", "recipe", "part", "part", "lot", "lot", "lot", "trial", "hour", "batch", "weigh", "mould",
    };
    private static final String[] AT_WORK = {
        "day", "day", "fat", "row", "tear", "scale", "recipe", "part", "lye", "lot", "lot", "spill", "batch", "batch",
        "batch", "weigh", "weigh", "weigh", "weigh", "weigh", "weigh", "mix", "mix", "mix", "mould", "mould", "pour",
        "pour", "pour", "cut", "cut", "cut", "boil", "with", "with", "sell", "sell", "sell", "trial", "hour", "hour",
        "hour", "torn", "hours", "burns", "burns", "dip", "even", "more", "more", "save", "ready", "piece", "piece",
        "place", "told", "left", "stock", "count", "loss", "status", "check", "image", "back",
    };
    private static final int[] ODD = {Integer.MIN_VALUE, -2, -1, 0, 1, 2, 3, 59, 60, 61, 400, 401, 1000001, Integer.MAX_VALUE};
    private static final float[] ODD_GRAMS = {
        0f, -0f, -0.05f, 0.05f, 0.0999f, 0.1f, 0.15f, 99999.99f, 100000f, 100000.05f, 100000.09f, 100000.1f, -1f,
        Float.NaN, Float.POSITIVE_INFINITY, Float.NEGATIVE_INFINITY, Float.MAX_VALUE, Float.MIN_VALUE,
    };

    private final Random chance;
    private final Counted x = new Counted();
    private final Oracle oracle = new Oracle();
    private final Map<String, Method> face = new HashMap<>();
    private final Map<String, Method> wanted = new HashMap<>();
    private final StringBuilder calls = new StringBuilder();
    private final int oddness;
    private final boolean asksStatus;
    private final boolean tellsAtItsEnd;
    private boolean differs = false;

    private RandomRunsTest(int seed) {
        chance = new Random(seed);
        // Some runs are nearly without wrong arguments, so that they come far.
        oddness = 1 + seed / 3 % 4 * 5;
        asksStatus = seed % 3 == 0;
        tellsAtItsEnd = seed % 3 == 1;
        for (Method m : Counted.class.getDeclaredMethods()) {
            face.put(m.getName(), m);
        }
        for (Method m : Oracle.class.getDeclaredMethods()) {
            if (java.lang.reflect.Modifier.isPublic(m.getModifiers())) {
                wanted.put(m.getName(), m);
            }
        }
    }

    public static void main(String[] args) throws ReflectiveOperationException {
        for (int seed = 0; seed < RUNS; seed++) {
            new RandomRunsTest(seed).run();
        }
        Due.end();
    }

    private void run() throws ReflectiveOperationException {
        int leaves = tellsAtItsEnd ? Counted.MOST_CALLS - CALLS_AHEAD_OF_TELLING : 1;
        for (int i = 0; x.callsLeft() > leaves && !differs; i++) {
            String[] names = i < 60 ? SETTING_UP : AT_WORK;
            String name = names[chance.nextInt(names.length)];
            if (name.equals("back") && chance.nextInt(4) > 0 || name.equals("tear") && chance.nextInt(4) > 0) {
                continue;
            }
            // A broken SCALE is mended soon, or little more would happen.
            call(name, name.equals("scale") ? new Object[] {chance.nextInt(3) > 0} : argumentsOf(name));
            if (asksStatus) {
                call("status");
            }
        }
        if (tellsAtItsEnd) {
            tellMuch();
        }
    }

    private void call(String name, Object... arguments) throws ReflectiveOperationException {
        Object got = face.get(name).invoke(x, arguments);
        Object due = wanted.get(name).invoke(oracle, arguments);
        calls.append(name).append(Arrays.toString(arguments)).append(" = ").append(got).append('\n');
        compare(name + Arrays.toString(arguments), number(got), number(due));
    }

    private void compare(String what, long got, long due) {
        Due.is(what, got, due);
        if (got != due && !differs) {
            differs = true;
            System.out.println("the calls:\n" + calls);
        }
    }

    private static long number(Object answer) {
        if (answer == null) {
            return 0;
        }
        return answer instanceof Boolean b ? (b ? 1 : 0) : ((Number) answer).longValue();
    }

    /** As much of all that can be told as there are calls left, by chance. */
    private void tellMuch() throws ReflectiveOperationException {
        while (x.callsLeft() > 0 && !differs) {
            int what = chance.nextInt(15) - 1;
            int batch = chance.nextInt((int) oracle.count(4) + 2);
            switch (chance.nextInt(12)) {
                case 0 -> call("count", what);
                case 1 -> call("left", chance.nextInt((int) oracle.count(3) + 2), what);
                case 2, 3 -> call("told", batch, what);
                case 4 -> call("even", batch, chance.nextInt(5) - 1);
                case 5 -> call("piece", batch, what);
                case 6 -> call("burns", batch, what);
                case 7 -> call("more", batch, what);
                case 8 -> call("ready", batch);
                case 9 -> call("place", chance.nextInt(42) - 1);
                case 10 -> call("save", chance.nextInt(53) - 1, chance.nextInt(2));
                default -> call("hours", chance.nextInt(3), 1 + chance.nextInt(3), chance.nextInt(2000));
            }
        }
    }

    // ---- arguments: mostly such that something happens, at times odd ones

    private boolean isOdd() {
        return chance.nextInt(100) < oddness;
    }

    private int within(int low, int high) {
        if (isOdd()) {
            int[] edges = {low - 1, low, high, high + 1, ODD[chance.nextInt(ODD.length)]};
            return edges[chance.nextInt(edges.length)];
        }
        return high < low ? low : low + chance.nextInt(high - low + 1);
    }

    private int aFat() {
        return within(0, Math.min(8, (int) oracle.count(1) - 1));
    }

    private int aGood() {
        return chance.nextInt(3) == 0 ? 60 : aFat();
    }

    private int aRecipe() {
        return within(0, Math.min(5, (int) oracle.count(2) - 1));
    }

    /** A BATCH, and if there is one soon found, one of a STATE. */
    private int aBatch(int state) {
        int batch = within(1, (int) oracle.count(4));
        for (int i = 0; i < 30 && oracle.told(batch, 1) != state && !isOdd(); i++) {
            batch = within(1, (int) oracle.count(4));
        }
        return batch;
    }

    private int aPlace(int what) {
        int place = within(0, 39);
        for (int i = 0; i < 50 && oracle.place(place) != what && !isOdd(); i++) {
            place = within(0, 39);
        }
        return place;
    }

    private float gramsTo(double most) {
        if (isOdd()) {
            return ODD_GRAMS[chance.nextInt(ODD_GRAMS.length)];
        }
        double part = chance.nextInt(3) == 0 ? chance.nextDouble() : chance.nextDouble() / 100;
        return Math.max(0.1f, (float) (part * most));
    }

    private Object[] argumentsOf(String name) {
        switch (name) {
            case "day": return new Object[] {within(1, chance.nextInt(5) == 0 ? 1000 : 12)};
            case "fat": return new Object[] {within(0, 5)};
            case "row": return new Object[] {aFat(), chance.nextInt(3) > 0 ? 0 : within(0, 5), within(0, 9999)};
            case "tear": return new Object[] {aFat()};
            case "recipe": return new Object[] {within(0, 50)};
            case "part": return new Object[] {aRecipe(), aFat(), within(1, 40)};
            case "lye": return new Object[] {aRecipe(), within(1, 1000000), within(1, 1000)};
            case "loss": return new Object[] {within(0, 20)};
            case "count": return new Object[] {within(0, 12)};
            case "place": return new Object[] {within(0, 39)};
            case "mould": return new Object[] {aPlace(chance.nextInt(3) - 1)};
            case "status": case "image": case "back": return new Object[0];
            default: return name.compareTo("hour") >= 0 && isOfTrials(name) ? trialArguments(name) : goodsOrBatches(name);
        }
    }

    private static boolean isOfTrials(String name) {
        return Arrays.asList("trial", "hour", "torn", "hours").contains(name);
    }

    private Object[] trialArguments(String name) {
        int trial = within(1, (int) oracle.count(5));
        switch (name) {
            case "trial": return new Object[] {within(0, 2), within(1, 3)};
            case "hour": return new Object[] {trial, gramsTo(chance.nextInt(8) == 0 ? 100000 : 100)};
            case "torn": return new Object[] {trial, within(0, 9)};
            default: return new Object[] {within(0, 2), within(1, 3), within(0, chance.nextBoolean() ? 1000 : 1000000)};
        }
    }

    private Object[] goodsOrBatches(String name) {
        int good = aGood();
        double there = Math.max(1, Math.min(1000000, oracle.stock(good)) / 10.0);
        switch (name) {
            case "lot": return new Object[] {good, gramsTo(100000), within(0, 1000000), within(1, 1000)};
            case "spill": return new Object[] {good, gramsTo(there)};
            case "left": return new Object[] {within(1, (int) oracle.count(3)), within(0, 4)};
            case "stock": return new Object[] {good};
            case "dip": return new Object[] {within(0, 2000), within(0, 50), within(0, 60000)};
            case "save": return new Object[] {within(0, 50), within(0, 1)};
            case "batch": return new Object[] {chance.nextInt(3) == 0 ? within(0, 4) : within(1, 2), aRecipe()};
            case "weigh": return new Object[] {aBatch(chance.nextInt(3) == 0 ? 3 : 0), good, gramsTo(there)};
            default: return batchArguments(name);
        }
    }

    private Object[] batchArguments(String name) {
        int cut = aBatch(3);
        int any = within(1, (int) oracle.count(4));
        switch (name) {
            case "mix": return new Object[] {aBatch(0)};
            case "pour": return new Object[] {aBatch(1), aPlace(0)};
            case "cut": return new Object[] {aBatch(2), within(1, chance.nextBoolean() ? 9 : 500),
                chance.nextBoolean() ? within(1, 3) : within(0, 400)};
            case "boil": case "ready": return new Object[] {cut};
            case "with": return chance.nextBoolean() ? new Object[] {aBatch(1), aBatch(1)} : new Object[] {aBatch(0), aBatch(0)};
            case "sell": return new Object[] {cut, within(1, 4), within(0, 1000000)};
            case "burns": return new Object[] {cut, within(0, 2)};
            case "even": return new Object[] {any, within(0, 2)};
            case "more": return new Object[] {any, aFat()};
            case "piece": return new Object[] {cut, within(0, 9)};
            case "told": return new Object[] {any, within(0, 10)};
            default: return checkArguments(any);
        }
    }

    /** For check(): mostly as it is, at times with one number that is another. */
    private Object[] checkArguments(int any) {
        int other = chance.nextInt(6);
        int weight = oracle.told(any, 2) + (other == 0 ? 1 : 0);
        long n = oracle.even(any, 1) + (other == 1 ? 1 : 0);
        long p = oracle.even(any, 1) - oracle.even(any, 0) + (other == 2 ? -1 : 0);
        return new Object[] {any, weight, n, p};
    }
}
