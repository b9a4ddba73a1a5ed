import java.util.List;

/** Compares answers with those that are due, prints those that differ, and counts. */
final class Due {
    private static int right = 0;
    private static int wrong = 0;

    private Due() {
    }

    static void is(String call, long got, long want) {
        if (got == want) {
            right++;
        } else {
            wrong++;
            System.out.println(call + " answered " + got + ", due is " + want);
        }
    }

    static void is(String call, boolean got, boolean want) {
        is(call, got ? 1 : 0, want ? 1 : 0);
    }

    /** An act that was done: its answer, and STATUS 0. */
    static void done(String call, Counted x, long got, long want) {
        is(call, got, want);
        is("status() after " + call, x.status(), 0);
    }

    static void done(String call, Counted x, boolean got) {
        done(call, x, got ? 1 : 0, 1);
    }

    /** An act that was refused: NONE, and why. */
    static void refused(String call, Counted x, long got, int why) {
        is(call, got, Chandlery.NONE);
        is("status() after " + call, x.status(), why);
    }

    static void denied(String call, Counted x, boolean got, int why) {
        is(call, got, false);
        is("status() after " + call, x.status(), why);
    }

    /** Two tellings of an object, line by line. */
    static void same(String what, List<String> got, List<String> want) {
        is(what + ": how much is told", got.size(), want.size());
        for (int i = 0; i < Math.min(got.size(), want.size()); i++) {
            boolean same = got.get(i).equals(want.get(i));
            is(what + ": " + (same ? "" : got.get(i) + ", not " + want.get(i)), same, true);
        }
    }

    /** Ends a test's main method. */
    static void end() {
        System.out.println(right + " answers as due, " + wrong + " not as due");
        if (wrong != 0 || right == 0) {
            System.exit(1);
        }
    }
}
