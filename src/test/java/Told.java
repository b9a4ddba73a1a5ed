import java.util.ArrayList;
import java.util.List;

/**
 * All that an object tells, as lines of text: what its telling calls answer and, for what only shows
 * later (the SCALE, ROWS, PARTS, hours, what is kept), what acts answer then. As it takes many calls,
 * it takes many objects that were brought there in the same way.
 */
final class Told {
    private static final int[] FATS = {0, 1, 2, 3, 7, 8, 58, 59};
    private static final int[] RECIPES = {0, 1, 2, 98, 99};
    private static final int[] LOTS = {1, 2, 3, 4, 5, 399, 400};
    private static final int[] BATCHES = {1, 2, 3, 4, 5, 6, 7, 8, 399, 400};
    private static final int[] TRIALS = {1, 2, 3, 99, 100};
    private static final int[][] WICKS_AND_WIDTHS = {{0, 1}, {1, 7}, {2, 3}, {9, 200}};
    private static final int[] WEIGHTS = {0, 1, 2, 3, 5, 7, 9, 10, 15, 100, 999_999, 1_000_000};

    private final Edge.Way way;
    private final List<String> lines = new ArrayList<>();
    private Counted x = null;

    private Told(Edge.Way way) {
        this.way = way;
        anew();
    }

    static List<String> all(Edge.Way way) {
        Told told = new Told(way);
        told.totals();
        told.lots();
        told.batches();
        told.places();
        told.hours();
        told.byScale();
        told.byFats();
        told.byRecipes();
        told.byTrials();
        told.byBatches();
        told.byKept();
        return told.lines;
    }

    private void anew() {
        x = new Counted();
        way.on(x);
    }

    private void ask(String call, Edge.Call asks) {
        if (x.callsLeft() < 1) {
            anew();
        }
        lines.add(call + " = " + asks.on(x));
    }

    /** An act, on an object of its own. */
    private void act(String call, Edge.Call does) {
        anew();
        if (x.callsLeft() > 0) {
            lines.add("then " + call + " = " + does.on(x));
        }
    }

    private static long number(boolean b) {
        return b ? 1 : 0;
    }

    private void totals() {
        for (int what = 0; what <= 12; what++) {
            int w = what;
            ask("count(" + w + ")", o -> o.count(w));
        }
        for (int spare = 0; spare <= 50; spare += 10) {
            int s = spare;
            ask("save(" + s + ", 0)", o -> o.save(s, 0));
            ask("save(" + s + ", 1)", o -> o.save(s, 1));
        }
        for (int fat : FATS) {
            ask("stock(" + fat + ")", o -> o.stock(fat));
        }
        ask("stock(60)", o -> o.stock(60));
        for (int recipe : RECIPES) {
            ask("lye(" + recipe + ", ..)", o -> o.lye(recipe, 1_000_000, 1));
        }
    }

    private void lots() {
        for (int lot : LOTS) {
            for (int what = 0; what <= 4; what++) {
                int w = what;
                ask("left(" + lot + ", " + w + ")", o -> o.left(lot, w));
            }
        }
    }

    private void batches() {
        for (int batch : BATCHES) {
            for (int what = 0; what <= 10; what++) {
                int w = what;
                ask("told(" + batch + ", " + w + ")", o -> o.told(batch, w));
            }
            for (int k = 0; k <= 3; k++) {
                int piece = k;
                ask("even(" + batch + ", " + k + ")", o -> o.even(batch, piece));
                ask("piece(" + batch + ", " + k + ")", o -> o.piece(batch, piece));
                ask("more(" + batch + ", " + k + ")", o -> o.more(batch, piece));
                ask("burns(" + batch + ", " + k + ")", o -> o.burns(batch, piece));
            }
            ask("ready(" + batch + ")", o -> o.ready(batch));
        }
    }

    private void places() {
        for (int place = 0; place < 40; place++) {
            int p = place;
            ask("place(" + p + ")", o -> o.place(p));
        }
    }

    private void hours() {
        for (int[] w : WICKS_AND_WIDTHS) {
            for (int weight : WEIGHTS) {
                ask("hours(" + w[0] + ", " + w[1] + ", " + weight + ")", o -> o.hours(w[0], w[1], weight));
            }
        }
    }

    private void byScale() {
        act("lot(60, ..)", o -> o.lot(60, 1f, 0, 1));
        act("hour(1, ..)", o -> o.hour(1, 1f));
    }

    private void byFats() {
        act("fat(0)", o -> o.fat(0));
        for (int fat : FATS) {
            act("tear(" + fat + ")", o -> number(o.tear(fat)));
            for (int i = 0; i < 5; i++) {
                int n = i;
                act("row(" + fat + ", " + i + ", 5)", o -> number(o.row(fat, n, 5)));
            }
        }
    }

    private void byRecipes() {
        act("recipe(0)", o -> o.recipe(0));
        for (int recipe : RECIPES) {
            for (int fat : FATS) {
                act("part(" + recipe + ", " + fat + ", 1)", o -> o.part(recipe, fat, 1));
            }
        }
    }

    private void byTrials() {
        act("trial(0, 1)", o -> o.trial(0, 1));
        for (int trial : TRIALS) {
            act("hour(" + trial + ", ..)", o -> o.hour(trial, 0f));
        }
    }

    private void byBatches() {
        act("batch(0, 0)", o -> o.batch(0, 0));
        for (int batch : BATCHES) {
            act("mix(" + batch + ")", o -> number(o.mix(batch)));
            act("boil(" + batch + ")", o -> o.boil(batch));
            act("sell(" + batch + ", 1, 0)", o -> o.sell(batch, 1, 0));
            act("weigh(" + batch + ", 0, ..)", o -> o.weigh(batch, 0, 0.1f));
            act("pour(" + batch + ", 30)", o -> number(o.pour(batch, 30)));
            act("cut(" + batch + ", 2, 1)", o -> number(o.cut(batch, 2, 1)));
        }
    }

    private void byKept() {
        act("back()", o -> number(o.back()));
        int[] whats = {0, 1, 2, 3, 4, 5, 9, 10, 11, 12};
        for (int what : whats) {
            anew();
            if (x.callsLeft() > 1) {
                x.back();
                lines.add("then back(), count(" + what + ") = " + x.count(what));
            }
        }
    }
}
