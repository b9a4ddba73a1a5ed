/** Numbers at the edges of bounds and far beyond them. */
final class Bounds {
    /** The last grams that are not above 1,000,000 TENTHS but by a part behind the point. */
    static final float MOST_GRAMS = Math.nextDown(100000.1f);

    private static final float[] BELOW_A_TENTH = {
        Float.NEGATIVE_INFINITY, -Float.MAX_VALUE, -429496736f, -100000f, -1f, -0.1f, -0.05f, -Float.MIN_VALUE, -0f, 0f,
        Float.MIN_VALUE, Float.MIN_NORMAL, 0.01f, 0.05f, Math.nextDown(0.1f),
    };
    private static final float[] BELOW_NOTHING = {
        Float.NEGATIVE_INFINITY, -Float.MAX_VALUE, -429496736f, -100000f, -1f, -0.1f, -0.05f, -Float.MIN_NORMAL,
        -Float.MIN_VALUE,
    };
    // Among them some whose TENTHS an int, or a long, would not hold.
    private static final float[] ABOVE_THE_MOST = {
        100000.1f, 100000.2f, 100001f, 214748368f, 429496736f, 429506736f, 922337203685477580f, 1844674407370955161f,
        1e30f, Float.MAX_VALUE / 10, Float.MAX_VALUE, Float.POSITIVE_INFINITY,
    };

    private Bounds() {
    }

    static int[] outside(int least, int most) {
        return new int[] {Integer.MIN_VALUE, least - 1, most + 1, Integer.MAX_VALUE};
    }

    /** Grams that are not 1 .. 1,000,000 TENTHS. */
    static float[] gramsOutside() {
        return both(BELOW_A_TENTH, ABOVE_THE_MOST);
    }

    /** Grams that are not 0 .. 1,000,000 TENTHS. */
    static float[] gramsOutsideOfAnHour() {
        return both(BELOW_NOTHING, ABOVE_THE_MOST);
    }

    private static float[] both(float[] low, float[] high) {
        float[] all = java.util.Arrays.copyOf(low, low.length + high.length);
        System.arraycopy(high, 0, all, low.length, high.length);
        return all;
    }
}
