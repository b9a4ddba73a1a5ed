import java.util.List;

/** Promises 36, 38, 40 and 41: what is counted, STATUS, and what is kept. */
public final class KeepTest {
    public static void main(String[] args) {
        promise36Count();
        promise38Status();
        promise40Image();
        promise41Back();
        promise41AllIsBack();
        promise41Grown();
        Due.end();
    }

    private static void promise36Count() {
        Counted x = Shop.full();
        x.day(4);
        x.trial(1, 1);
        x.recipe(1);
        x.lot(1, 10f, 7, 0);
        int soap = Shop.open(x, Shop.SOAP, 30f);
        Shop.cut(x, Shop.PLAIN, 12f, 2, 0);
        x.sell(2, 2, 55);
        x.batch(Shop.SOAP, 0);
        x.weigh(3, 0, 1f);
        x.with(soap, 3);
        x.spill(1, 20.025f);
        x.loss(9);
        long[] due = {4, 2, 2, 4, 3, 1, 3000007, 3000007 - 430 - 200, 430, 200, 55, 250, 9};
        for (int what = 0; what < due.length; what++) {
            Due.is("count(" + what + ")", x.count(what), due[what]);
        }
        Due.is("count(-1)", x.count(-1), -1);
        Due.is("count(13)", x.count(13), -1);
        Due.is("count(MAX)", x.count(Integer.MAX_VALUE), -1);
        Due.refused("day(0)", x, x.day(0), 3);
        x.count(0);
        x.count(13);
        Due.is("status() stays", x.status(), 3);
        for (int i = 0; i < 390; i++) {
            x.lot(0, 1f, 1000000, 0);
        }
        Due.is("count(6)", x.count(6), 393000007);
    }

    private static void promise38Status() {
        Counted x = Shop.full();
        int[] due = {1, 2, 3, 4, 5, 6, 7, 8};
        int soap = Shop.cut(x, Shop.SOAP, 1f, 1, 9);
        for (int i = 0; i < 7; i++) {
            x.part(0, 0, 1);
        }
        long[] got = new long[8];
        for (int i = 0; i < 8; i++) {
            x.day(1);
            Due.is("status() after an act that is done", x.status(), 0);
            switch (due[i]) {
                case 1:
                    got[i] = x.mould(40);
                    break;
                case 2:
                    got[i] = x.boil(soap);
                    break;
                case 3:
                    got[i] = x.recipe(51);
                    break;
                case 4:
                    got[i] = x.spill(0, Float.NaN);
                    break;
                case 5:
                    got[i] = x.weigh(x.batch(Shop.SOAP, 0), 1, 1f);
                    break;
                case 6:
                    got[i] = x.sell(soap, 2, 1);
                    break;
                case 7:
                    got[i] = x.sell(soap, 1, 1);
                    break;
                default:
                    for (int fat = 0; fat < 60; fat++) {
                        got[i] = x.fat(0);
                    }
            }
            Due.refused("an act with STATUS " + due[i], x, got[i], due[i]);
            Due.is("status() again", x.status(), due[i]);
        }
    }

    private static void promise40Image() {
        Counted x = new Counted();
        x.day(5);
        Due.refused("day(0)", x, x.day(0), 3);
        x.image();
        Due.is("status() after image()", x.status(), 0);
        x.day(5);
        x.image();
        x.day(5);
        Due.done("back()", x, x.back());
        Due.is("the second image is in place of the first", x.count(0), 10);
        Due.refused("day(0)", x, x.day(0), 3);
        Due.done("back()", x, x.back());
        Due.is("count(0)", x.count(0), 10);
    }

    private static void promise41Back() {
        Counted x = new Counted();
        Due.denied("back() without an image", x, x.back(), 2);
        x.day(1);
        Due.denied("back() without an image", x, x.back(), 2);
        Due.is("nothing changed", x.count(0), 1);
        x.image();
        for (int i = 0; i < 3; i++) {
            x.fat(1);
            x.day(1);
            Due.refused("day(0)", x, x.day(0), 3);
            Due.done("back(): that stays kept", x, x.back());
            Due.is("count(0)", x.count(0), 1);
            Due.is("count(1)", x.count(1), 0);
        }
        Counted other = new Counted();
        Due.denied("another object has kept nothing", other, other.back(), 2);
    }

    private static void promise41AllIsBack() {
        List<String> before = Told.all(x -> {
            busy(x);
            x.image();
        });
        List<String> after = Told.all(x -> {
            busy(x);
            x.image();
            changeAll(x);
        });
        Due.is("all was changed", after.equals(before), false);
        Due.same("back()", Told.all(KeepTest::thereAndBack), before);
        Due.same("back() and the same acts again", Told.all(x -> {
            thereAndBack(x);
            changeAll(x);
        }), after);
        Due.same("there and back a second time", Told.all(x -> {
            thereAndBack(x);
            changeAll(x);
            x.back();
        }), before);
        Due.same("kept anew", Told.all(x -> {
            busy(x);
            changeAll(x);
            x.image();
            x.back();
        }), Told.all(x -> {
            busy(x);
            changeAll(x);
            x.image();
        }));
    }

    private static void thereAndBack(Counted x) {
        busy(x);
        x.image();
        changeAll(x);
        x.back();
    }

    /** Something of every sort, and a broken SCALE. */
    private static void busy(Counted x) {
        Shop.fill(x);
        x.part(0, 0, 5);
        Shop.open(x, Shop.SOAP, 10f);
        x.weigh(1, 60, 3f);
        Shop.mixed(x, Shop.TWICE, 20f);
        Shop.mixed(x, Shop.SOAP, 30f);
        Shop.poured(x, Shop.CANDLE, 40f);
        Shop.cut(x, Shop.DIPPED, 50f, 7, 3);
        Shop.cutOff(x, Shop.TWICE, 9, 10);
        Shop.cut(x, Shop.SOAP, 70f, 3, 0);
        x.sell(7, 1, 20);
        x.trial(2, 3);
        x.hour(1, 0.2f);
        x.hour(1, 0.3f);
        x.day(11);
        x.spill(60, 1.0025f);
        x.mould(30);
        x.loss(4);
        x.scale(false);
    }

    private static void changeAll(Counted x) {
        x.scale(true);
        x.day(9);
        x.row(0, 0, 1200);
        x.row(0, 1, 3);
        x.tear(1);
        x.fat(5);
        x.part(0, 0, 5);
        x.part(0, 2, 1);
        x.recipe(4);
        x.part(1, 0, 9);
        x.lot(60, 5.5f, 66, 77);
        x.spill(0, 12.5f);
        x.weigh(1, 0, 3f);
        x.weigh(1, 60, 2f);
        x.mix(1);
        x.with(2, 3);
        x.cut(4, 6, 3);
        x.pour(2, 30);
        x.sell(5, 2, 10);
        x.weigh(6, 0, 300f);
        x.boil(6);
        x.sell(7, 2, 30);
        x.batch(Shop.PLAIN, 1);
        x.mould(31);
        x.mould(7);
        x.torn(1, 1);
        x.hour(1, 0.7f);
        x.hour(1, 0.1f);
        x.trial(2, 3);
        x.hour(2, 1f);
        x.loss(5);
    }

    /** What comes behind an image leaves no trace in what comes behind back(). */
    private static void promise41Grown() {
        Counted x = Shop.full();
        x.image();
        x.recipe(33);
        x.part(1, 0, 7);
        x.trial(1, 1);
        x.hour(1, 1f);
        x.hour(1, 1f);
        Shop.cut(x, Shop.SOAP, 5f, 4, 3);
        x.back();
        Due.done("recipe(3)", x, x.recipe(3), 1);
        Due.is("lye without PARTS", x.lye(1, 1000, 1000), -1);
        Due.done("part(1, 0, 1)", x, x.part(1, 0, 1), 1);
        Due.done("trial(1, 1)", x, x.trial(1, 1), 1);
        Due.is("HOURS", x.hours(1, 1, 1000), 0);
        Due.done("batch(0, 1)", x, x.batch(Shop.PLAIN, 1), 1);
        Due.is("told(1, 6)", x.told(1, 6), 0);
        x.image();
        x.hour(1, 2f);
        x.torn(1, 0);
        x.back();
        Due.done("hour", x, x.hour(1, 3f), 1);
        Due.is("HOURS", x.hours(1, 1, 29), 0);
        Due.is("HOURS", x.hours(1, 1, 30), 1);
    }
}
