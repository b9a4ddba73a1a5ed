import java.util.List;

/**
 * Runs about one sentence of the document. Each of them begins on a new object that is brought to the
 * same place in the same way, so that none hangs on another.
 */
final class Edge {
    /** Calls that bring an object somewhere. */
    interface Way {
        void on(Counted x);
    }

    /** A call that answers with a number. */
    interface Call {
        long on(Counted x);
    }

    /** A call that answers whether it was done. */
    interface Deed {
        boolean on(Counted x);
    }

    private final String where;
    private final Way way;
    private List<String> toldThere = null;

    private Edge(String where, Way way) {
        this.where = where;
        this.way = way;
    }

    static Edge at(String where, Way way) {
        return new Edge(where, way);
    }

    /** Some calls further on. */
    Edge then(String whereThen, Way further) {
        return new Edge(whereThen, x -> {
            way.on(x);
            further.on(x);
        });
    }

    /** An act is done: its answer is due, and STATUS becomes 0, whatever it was. */
    void done(String call, Call act, long want) {
        Counted x = start();
        Due.done(where + ": " + call, x, act.on(x), want);
        Counted y = start();
        setStatus(y, 3);
        Due.done(where + ", behind a refused act: " + call, y, act.on(y), want);
    }

    void did(String call, Deed act) {
        done(call, x -> act.on(x) ? 1 : 0, 1);
    }

    /** An act is refused: it answers NONE, tells why, and changes nothing else. */
    void refused(String call, Call act, int why) {
        refusedWith(call, act, Chandlery.NONE, why);
    }

    void denied(String call, Deed act, int why) {
        refusedWith(call, x -> act.on(x) ? 1 : 0, 0, why);
    }

    private void refusedWith(String call, Call act, int want, int why) {
        Counted x = start();
        Due.is(where + ": " + call, act.on(x), want);
        Due.is(where + ": status() after " + call, x.status(), why);
        Counted y = start();
        setStatus(y, why == 3 ? 1 : 3);
        Due.is(where + ", behind another refused act: " + call, act.on(y), want);
        Due.is(where + ", behind another refused act: status() after " + call, y.status(), why);
        changesNothing(call, act);
    }

    /** A call that only tells: its answer is due, STATUS stays, and so does all else. */
    void tells(String call, Call asks, long want) {
        for (int status : new int[] {0, 1, 3}) {
            Counted x = start();
            setStatus(x, status);
            Due.is(where + ": " + call, asks.on(x), want);
            Due.is(where + ": status() stays after " + call, x.status(), status);
        }
        changesNothing(call, asks);
    }

    /** Something is told after an act that was done. */
    void after(String act, Way does, String call, Call asks, long want) {
        Counted x = start();
        does.on(x);
        Due.is(where + ", then " + act + ": " + call, asks.on(x), want);
    }

    private void changesNothing(String call, Call act) {
        if (toldThere == null) {
            toldThere = Told.all(way);
        }
        List<String> told = Told.all(x -> {
            way.on(x);
            act.on(x);
        });
        Due.same(where + ": " + call + " changes nothing", told, toldThere);
    }

    private Counted start() {
        Counted x = new Counted();
        way.on(x);
        return x;
    }

    /** STATUS becomes 0, 1 or 3, and nothing else changes. */
    private static void setStatus(Counted x, int status) {
        switch (status) {
            case 0 -> x.loss((int) x.count(12));
            case 1 -> x.mould(40);
            default -> x.day(0);
        }
    }
}
