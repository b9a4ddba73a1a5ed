/** The edges that promises 37, 38, 40 and 41 name: LOSS, STATUS, and what is kept. */
public final class KeepEdgeTest {
    private static final int LYE = Shop.LYE;

    public static void main(String[] args) {
        promise37Bounds();
        promise37AllDays();
        promise38First();
        promise38EachStatus();
        promise38TellingLeavesIt();
        promise40InPlaceOfWhatWasKept();
        promise40OfAllThatIs();
        promise41NothingKept();
        promise41StaysKept();
        promise41Within();
        promise41Numbers();
        promise41Full();
        Due.end();
    }

    private static Edge fresh() {
        return Edge.at("a new object", x -> { });
    }

    private static Edge filled() {
        return Edge.at("GOODS", Shop::fill);
    }

    // ---- promise 37

    // "LOSS is from now on so many thousandths a day (0 .. 20; 3)"
    private static void promise37Bounds() {
        for (int loss : Bounds.outside(0, 20)) {
            fresh().denied("loss(" + loss + ")", x -> x.loss(loss), 3);
        }
        for (int loss : new int[] {0, 1, 20}) {
            fresh().did("loss(" + loss + ")", x -> x.loss(loss));
            fresh().after("loss(" + loss + ")", x -> x.loss(loss), "count(12)", x -> x.count(12), loss);
        }
        fresh().tells("count(12): 2 at first", x -> x.count(12), 2);
    }

    // "of all pieces, for all their days"
    private static void promise37AllDays() {
        int[] days = {0, 1, 49, 50, 51, 30_000};
        int[] due = {1000, 980, 20, 0, 0, 0};
        for (int i = 0; i < days.length; i++) {
            int day = days[i];
            Edge at = filled().then("day " + day, x -> {
                Shop.cut(x, Shop.SOAP, 100f, 1, 0);
                Shop.wait(x, day);
            });
            at.after("loss(20)", x -> x.loss(20), "piece(1, 0)", x -> x.piece(1, 0), due[i]);
            at.after("loss(0)", x -> x.loss(0), "piece(1, 0)", x -> x.piece(1, 0), 1000);
            at.after("loss(20)", x -> x.loss(20), "told(1, 2)", x -> x.told(1, 2), 1000);
        }
    }

    // ---- promise 38

    // "An act that is done sets it to 0": none was refused yet
    private static void promise38First() {
        Due.is("status() of a new object", new Counted().status(), 0);
    }

    /** Does something that has a STATUS. */
    private static void cause(Counted x, int status) {
        switch (status) {
            case 0 -> x.day(1);
            case 1 -> x.mould(40);
            case 2 -> x.boil(1);
            case 3 -> x.day(0);
            case 4 -> x.spill(0, Float.NaN);
            case 5 -> x.row(1, 0, 1);
            case 6 -> x.sell(1, 11, 1);
            case 7 -> x.sell(1, 1, 1);
            default -> x.part(0, 10, 1);
        }
    }

    /** BATCH 1 is a SOAP that cures for long; RECIPE 0 has 8 FATS; a TRIAL. */
    private static Counted withAllToCause() {
        Counted x = Shop.full();
        Shop.cut(x, Shop.SOAP, 100f, 10, 400);
        for (int fat = 2; fat <= 10; fat++) {
            x.fat(1);
        }
        for (int fat = 2; fat < 10; fat++) {
            x.part(0, fat, 1);
        }
        x.trial(1, 7);
        return x;
    }

    // "STATUS is the first that holds: 1 .. 8"; "An act that is done sets it to 0"
    private static void promise38EachStatus() {
        for (int first = 0; first <= 8; first++) {
            for (int second = 0; second <= 8; second++) {
                Counted x = withAllToCause();
                cause(x, first);
                Due.is("status()", x.status(), first);
                Due.is("status() again", x.status(), first);
                cause(x, second);
                Due.is("status() behind " + first, x.status(), second);
            }
        }
    }

    // "what only tells .. leaves it, refused or not"
    private static void promise38TellingLeavesIt() {
        for (int status = 0; status <= 8; status++) {
            Edge.Call[] telling = {
                x -> x.lye(0, 100, 100), x -> x.lye(9, 100, 100), x -> x.hours(1, 7, 1), x -> x.hours(-1, 7, 1),
                x -> x.burns(1, 1), x -> x.burns(99, 1), x -> x.dip(1, 0, 1), x -> x.dip(-1, 0, 1), x -> x.even(1, 0),
                x -> x.even(99, 0), x -> x.more(1, 0), x -> x.more(99, 0), x -> x.save(0, 0), x -> x.save(99, 0),
                x -> x.ready(1), x -> x.ready(99), x -> x.piece(1, 0), x -> x.piece(1, 99), x -> x.place(0),
                x -> x.place(99), x -> x.told(1, 0), x -> x.told(99, 0), x -> x.left(1, 0), x -> x.left(99, 0),
                x -> x.stock(0), x -> x.stock(99), x -> x.count(0), x -> x.count(99), x -> x.status(),
                x -> x.check(1, 1000, 0, 0), x -> x.check(99, 0, 0, 0),
            };
            for (int i = 0; i < telling.length; i++) {
                Counted x = withAllToCause();
                cause(x, status);
                telling[i].on(x);
                Due.is("status() behind telling call " + i, x.status(), status);
            }
        }
    }

    // ---- promise 40

    // "in place of what was kept before (STATUS is 0)"
    private static void promise40InPlaceOfWhatWasKept() {
        Edge at = fresh().then("day 1", x -> x.day(1));
        at.done("image()", KeepEdgeTest::image, 0);
        Edge kept = at.then("kept on day 1", x -> x.image());
        kept.tells("count(0)", x -> x.count(0), 1);
        kept.after("a day, back()", KeepEdgeTest::dayAndBack, "count(0)", x -> x.count(0), 1);
        Edge anew = kept.then("kept on day 2", x -> {
            x.day(1);
            x.image();
        });
        anew.after("a day, back()", KeepEdgeTest::dayAndBack, "count(0)", x -> x.count(0), 2);
        anew.after("twice back()", x -> {
            x.back();
            x.back();
        }, "count(0)", x -> x.count(0), 2);
        fresh().after("an image of nothing", x -> {
            x.image();
            Shop.fill(x);
            x.back();
        }, "count(1)", x -> x.count(1), 0);
    }

    private static long image(Counted x) {
        x.image();
        return 0;
    }

    private static void dayAndBack(Counted x) {
        x.day(1);
        x.back();
    }

    // "All is kept as it is": what is told does not change
    private static void promise40OfAllThatIs() {
        Edge.Way busy = x -> {
            Shop.fill(x);
            Shop.cutOff(x, Shop.TWICE, 4, 5);
            Shop.poured(x, Shop.SOAP, 10f);
            x.trial(1, 7);
            x.hour(1, 0.5f);
            x.scale(false);
        };
        Due.same("image() changes nothing", withoutKept(Told.all(x -> {
            busy.on(x);
            x.image();
        })), withoutKept(Told.all(busy)));
    }

    private static java.util.List<String> withoutKept(java.util.List<String> lines) {
        return lines.stream().filter(line -> !line.contains("back()")).toList();
    }

    // ---- promise 41

    // "2: nothing is kept"
    private static void promise41NothingKept() {
        fresh().denied("back()", x -> x.back(), 2);
        filled().denied("back()", x -> x.back(), 2);
        fresh().then("kept", x -> x.image()).did("back()", x -> x.back());
    }

    // "(that stays kept)"
    private static void promise41StaysKept() {
        Edge at = filled().then("kept, and back", x -> {
            x.image();
            x.fat(1);
            x.back();
        });
        at.did("back()", x -> x.back());
        at.after("a FAT, back()", x -> {
            x.fat(1);
            x.back();
        }, "count(1)", x -> x.count(1), 2);
        at.after("a refused act, back()", x -> {
            x.fat(9);
            x.back();
        }, "status()", x -> x.status(), 0);
        Edge changed = filled().then("kept, then changed", x -> {
            x.image();
            x.row(0, 0, 7);
            x.tear(1);
            x.part(0, 0, 1);
            x.spill(0, 1f);
            x.scale(false);
        });
        changed.after("back()", x -> x.back(), "stock(0)", x -> x.stock(0), 1_000_000);
        changed.after("back()", x -> x.back(), "the SCALE works", x -> x.spill(0, 1f), 10);
        changed.after("back()", x -> x.back(), "the ROW is there", x -> x.tear(1) ? 1 : 0, 1);
        changed.after("back()", x -> x.back(), "no PARTS", x -> x.part(0, 0, 2), 2);
        changed.after("back()", x -> {
            x.back();
            x.part(0, 0, 1);
        }, "NEED 1,000", x -> x.lye(0, 1000, 1000), 90);
    }

    /** A RECIPE loses the FATS, a BATCH the GOODS that came behind the image. */
    private static void promise41Within() {
        Edge recipe = filled().then("kept with a FAT in a RECIPE, 7 more behind", x -> {
            x.part(0, 0, 1);
            x.image();
            x.part(0, 1, 1);
            for (int fat = 2; fat < 8; fat++) {
                x.fat(0);
                x.part(0, fat, 1);
            }
            x.back();
        });
        recipe.tells("lye: no FAT without NEED", x -> x.lye(0, 1000, 1000), 90);
        recipe.done("part(0, 1, 1)", x -> x.part(0, 1, 1), 2);
        Edge again = recipe.then("8 FATS again", x -> {
            for (int fat = 2; fat <= 9; fat++) {
                x.fat(0);
            }
            for (int fat = 1; fat < 8; fat++) {
                x.part(0, fat, 1);
            }
        });
        again.refused("a ninth", x -> x.part(0, 8, 1), 8);
        again.done("the eighth again", x -> x.part(0, 7, 1), 9);
        Edge batch = filled().then("kept with LYE in a SOAP, more behind", x -> {
            Shop.open(x, Shop.SOAP, 100f);
            x.weigh(1, LYE, 1f);
            x.image();
            x.weigh(1, LYE, 10f);
            x.weigh(1, 0, 10f);
            x.back();
        });
        batch.tells("check", x -> x.check(1, 1010, 1_000_000, 50_000), 0);
        batch.tells("told(1, 3)", x -> x.told(1, 3), 1010);
        batch.tells("stock(60)", x -> x.stock(LYE), 1_000_000 - 10);
    }

    /** What came behind the image is no more, and its numbers are told again. */
    private static void promise41Numbers() {
        Edge at = filled().then("kept, then more of all", x -> {
            x.batch(Shop.SOAP, 0);
            x.trial(1, 7);
            x.image();
            x.fat(1);
            x.recipe(1);
            x.lot(0, 1f, 5, 0);
            x.batch(Shop.SOAP, 1);
            x.trial(1, 7);
            x.hour(2, 1f);
            x.mould(3);
            x.back();
        });
        at.done("fat", x -> x.fat(1), 2);
        at.done("recipe", x -> x.recipe(1), 1);
        at.done("lot", x -> x.lot(0, 1f, 5, 0), 4);
        at.done("batch", x -> x.batch(Shop.SOAP, 0), 2);
        at.done("trial", x -> x.trial(1, 7), 2);
        at.refused("lot of a FAT that is no more", x -> x.lot(2, 1f, 1, 1), 1);
        at.refused("batch by a RECIPE that is no more", x -> x.batch(0, 1), 1);
        at.refused("weigh into a BATCH that is no more", x -> x.weigh(2, 0, 1f), 1);
        at.refused("hour of a TRIAL that is no more", x -> x.hour(2, 1f), 1);
        at.tells("left(4, 0)", x -> x.left(4, 0), -1);
        at.tells("place(3)", x -> x.place(3), -1);
        at.tells("count(6)", x -> x.count(6), 3_000_000);
        at.after("a TRIAL", x -> x.trial(1, 7), "its hours begin anew", x -> x.hour(2, 1f), 1);
    }

    /** Kept with nothing, back from what is full: there is room again. */
    private static void promise41Full() {
        Edge fats = fresh().then("60 FATS, and back", x -> {
            x.image();
            for (int i = 0; i < 60; i++) {
                x.fat(1);
            }
            x.back();
        });
        fats.done("fat(0)", x -> x.fat(0), 0);
        Edge lots = fresh().then("400 LOTS, and back", x -> {
            x.image();
            for (int i = 0; i < 400; i++) {
                x.lot(LYE, 1f, 1, 1);
            }
            x.back();
        });
        lots.done("lot", x -> x.lot(LYE, 1f, 1, 1), 1);
        Edge full = fresh().then("400 LOTS, kept, and back", x -> {
            for (int i = 0; i < 400; i++) {
                x.lot(LYE, 1f, 1, 1);
            }
            x.image();
            x.spill(LYE, 1000f);
            x.back();
        });
        full.refused("lot", x -> x.lot(LYE, 1f, 1, 1), 8);
        full.tells("stock(60)", x -> x.stock(LYE), 4000);
        Edge hours = fresh().then("200 hours, kept, cut off and back", x -> {
            x.trial(1, 7);
            for (int i = 0; i < 200; i++) {
                x.hour(1, 0.1f);
            }
            x.image();
            x.torn(1, 0);
            x.hour(1, 9f);
            x.back();
        });
        hours.refused("a 201st hour", x -> x.hour(1, 1f), 8);
        hours.tells("HOURS of 199", x -> x.hours(1, 7, 199), 199);
    }
}
