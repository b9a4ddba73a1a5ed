/** Compares answers with those that are due, prints those that differ, and counts. */
final class Due {
    private static int right = 0;
    private static int wrong = 0;

    private Due() {
    }

    static void is(String call, long got, long want) {
        if (got == want) {
            right++;
        } else {
            wrong++;
            System.out.println(call + " answered " + got + ", due is " + want);
        }
    }

    static void is(String call, boolean got, boolean want) {
        is(call, got ? 1 : 0, want ? 1 : 0);
    }

    /** An act that was done: its answer, and STATUS 0. */
    static void done(String call, Chandlery x, long got, long want) {
        is(call, got, want);
        is("status() after " + call, x.status(), 0);
    }

    static void done(String call, Chandlery x, boolean got) {
        done(call, x, got ? 1 : 0, 1);
    }

    /** An act that was refused: NONE, and why. */
    static void refused(String call, Chandlery x, long got, int why) {
        is(call, got, Chandlery.NONE);
        is("status() after " + call, x.status(), why);
    }

    static void denied(String call, Chandlery x, boolean got, int why) {
        is(call, got, false);
        is("status() after " + call, x.status(), why);
    }

    /** Ends a test's main method. */
    static void end() {
        System.out.println(right + " answers as due, " + wrong + " not as due");
        if (wrong != 0 || right == 0) {
            System.exit(1);
        }
    }
}
