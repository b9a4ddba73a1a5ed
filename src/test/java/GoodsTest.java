/** Promises 1 to 11, 34 and 35: the DAY, FATS, RECIPES and LOTS. */
public final class GoodsTest {
    public static void main(String[] args) {
        promise1NewObject();
        promise2Day();
        promise3Fat();
        promise4Row();
        promise5Tear();
        promise6Scale();
        promise7Recipe();
        promise8Part();
        promise9Lye();
        promise10Lot();
        promise10Reading();
        promise10Room();
        promise11Spill();
        promise11Costs();
        promise34Left();
        promise35Stock();
        Due.end();
    }

    private static void promise1NewObject() {
        Counted x = new Counted();
        Due.is("status()", x.status(), 0);
        for (int what = 0; what <= 11; what++) {
            Due.is("count(" + what + ") of a new one", x.count(what), 0);
        }
        Due.is("count(12) of a new one", x.count(12), 2);
        for (int place = 0; place < 40; place++) {
            Due.is("place(" + place + ") of a new one", x.place(place), -1);
        }
        Due.is("stock(60) of a new one", x.stock(60), 0);
        Due.is("stock(0) of a new one", x.stock(0), -1);
        Due.denied("back() of a new one", x, x.back(), 2);
        Due.done("a new one's SCALE works: lot", x, x.lot(60, 1f, 1, 1), 1);
    }

    private static void promise2Day() {
        Counted x = new Counted();
        Due.refused("day(0)", x, x.day(0), 3);
        Due.refused("day(-1)", x, x.day(-1), 3);
        Due.refused("day(1001)", x, x.day(1001), 3);
        Due.refused("day(MIN)", x, x.day(Integer.MIN_VALUE), 3);
        Due.refused("day(MAX)", x, x.day(Integer.MAX_VALUE), 3);
        Due.is("count(0)", x.count(0), 0);
        Due.done("day(1)", x, x.day(1), 1);
        Due.done("day(1000)", x, x.day(1000), 1001);
        for (int i = 2; i < 30; i++) {
            x.day(1000);
        }
        Due.is("count(0)", x.count(0), 29001);
        Due.refused("day(1000) to 30,001", x, x.day(1000), 3);
        Due.is("count(0) stays", x.count(0), 29001);
        Due.done("day(999) to 30,000", x, x.day(999), 30000);
        Due.refused("day(1) from 30,000", x, x.day(1), 3);
    }

    private static void promise3Fat() {
        Counted x = new Counted();
        Due.refused("fat(-1)", x, x.fat(-1), 3);
        Due.refused("fat(6)", x, x.fat(6), 3);
        for (int i = 0; i < 60; i++) {
            Due.done("fat(" + i % 6 + ")", x, x.fat(i % 6), i);
        }
        Due.refused("fat(1) as 61st", x, x.fat(1), 8);
        Due.refused("fat(6) as 61st", x, x.fat(6), 3);
        Due.is("count(1)", x.count(1), 60);
        for (int numbers = 0; numbers < 6; numbers++) {
            for (int i = 0; i < 6; i++) {
                if (i < numbers) {
                    Due.done("row of " + numbers + " at " + i, x, x.row(numbers, i, 1));
                } else {
                    Due.denied("row of " + numbers + " at " + i, x, x.row(numbers, i, 1), 5);
                }
            }
        }
    }

    private static void promise4Row() {
        Counted x = new Counted();
        Due.denied("row(0, 0, 1) without a FAT", x, x.row(0, 0, 1), 1);
        x.fat(5);
        Due.denied("row(-1, ..)", x, x.row(-1, 0, 1), 1);
        Due.denied("row(1, ..)", x, x.row(1, 0, 1), 1);
        Due.denied("row(60, ..): LYE is no FAT", x, x.row(60, 0, 1), 1);
        Due.denied("row(1, 0, -1): 1 ahead of 3", x, x.row(1, 0, -1), 1);
        Due.denied("row(0, 0, -1)", x, x.row(0, 0, -1), 3);
        Due.denied("row(0, 0, 10000)", x, x.row(0, 0, 10000), 3);
        Due.denied("row(0, 9, 10000): 3 ahead of 5", x, x.row(0, 9, 10000), 3);
        Due.denied("row(0, -1, 1)", x, x.row(0, -1, 1), 5);
        Due.denied("row(0, 5, 1)", x, x.row(0, 5, 1), 5);
        Due.denied("row(0, MAX, 1)", x, x.row(0, Integer.MAX_VALUE, 1), 5);
        Due.denied("row(0, MIN, 1)", x, x.row(0, Integer.MIN_VALUE, 1), 5);
        Due.done("row(0, 4, 9999)", x, x.row(0, 4, 9999));
        Due.done("row(0, 0, 9999)", x, x.row(0, 0, 9999));
        x.recipe(0);
        x.part(0, 0, 1);
        Due.is("lye by NEED 9,999", x.lye(0, 10000, 1000), 9999);
        Due.done("row(0, 1, 5)", x, x.row(0, 1, 5));
        Due.is("lye: hardness is not NEED", x.lye(0, 10000, 1000), 9999);
        Due.done("row(0, 0, 0)", x, x.row(0, 0, 0));
        Due.is("lye by NEED 0", x.lye(0, 10000, 1000), 0);
    }

    private static void promise5Tear() {
        Counted x = new Counted();
        Due.denied("tear(0) without a FAT", x, x.tear(0), 1);
        x.fat(2);
        x.fat(0);
        x.fat(1);
        Due.denied("tear(3)", x, x.tear(3), 1);
        Due.denied("tear(-1)", x, x.tear(-1), 1);
        Due.denied("tear(60)", x, x.tear(60), 1);
        Due.done("tear(0)", x, x.tear(0));
        Due.denied("tear(0) again", x, x.tear(0), 5);
        Due.denied("row of a torn one", x, x.row(0, 0, 1), 5);
        Due.done("tear(1), a ROW of no numbers", x, x.tear(1));
        Due.denied("tear(1) again", x, x.tear(1), 5);
        x.recipe(0);
        x.part(0, 2, 1);
        Due.is("lye with a ROW", x.lye(0, 1000, 1000), 0);
        x.tear(2);
        Due.is("lye without a ROW", x.lye(0, 1000, 1000), -1);
        Due.is("FATS that are torn stay", x.count(1), 3);
        Due.done("lot of a torn FAT", x, x.lot(0, 1f, 0, 0), 1);
    }

    private static void promise6Scale() {
        Counted x = new Counted();
        Due.refused("day(0)", x, x.day(0), 3);
        x.scale(false);
        Due.is("status() after scale(false)", x.status(), 0);
        Due.refused("lot with a broken SCALE", x, x.lot(60, 1f, 1, 1), 4);
        x.scale(true);
        Due.is("status() after scale(true)", x.status(), 0);
        Due.done("lot with a SCALE that works again", x, x.lot(60, 1f, 1, 1), 1);
        x.trial(1, 1);
        x.scale(false);
        x.scale(false);
        Due.refused("hour with a broken SCALE", x, x.hour(1, 1f), 4);
        Due.refused("spill with a broken SCALE", x, x.spill(60, 1f), 4);
    }

    private static void promise7Recipe() {
        Counted x = new Counted();
        Due.refused("recipe(-1)", x, x.recipe(-1), 3);
        Due.refused("recipe(51)", x, x.recipe(51), 3);
        for (int i = 0; i < 100; i++) {
            Due.done("recipe", x, x.recipe(i % 51), i);
        }
        Due.refused("recipe(0) as 101st", x, x.recipe(0), 8);
        Due.refused("recipe(51) as 101st", x, x.recipe(51), 3);
        Due.is("count(2)", x.count(2), 100);
        x.fat(1);
        x.row(0, 0, 1000);
        for (int i = 0; i < 100; i++) {
            x.part(i, 0, 1);
            Due.is("lye by RECIPE " + i, x.lye(i, 1000, 1000), 100 - i % 51);
        }
    }

    private static void promise8Part() {
        Counted x = new Counted();
        for (int i = 0; i < 10; i++) {
            x.fat(1);
        }
        Due.refused("part without a RECIPE", x, x.part(0, 0, 1), 1);
        x.recipe(0);
        Due.refused("part(-1, 0, 1)", x, x.part(-1, 0, 1), 1);
        Due.refused("part(1, 0, 1)", x, x.part(1, 0, 1), 1);
        Due.refused("part(0, -1, 1)", x, x.part(0, -1, 1), 1);
        Due.refused("part(0, 10, 1)", x, x.part(0, 10, 1), 1);
        Due.refused("part(0, 60, 1): LYE is no FAT", x, x.part(0, 60, 1), 1);
        Due.refused("part(0, 10, 0): 1 ahead of 3", x, x.part(0, 10, 0), 1);
        Due.refused("part(0, 0, 0)", x, x.part(0, 0, 0), 3);
        Due.refused("part(0, 0, -1)", x, x.part(0, 0, -1), 3);
        Due.refused("part(0, 0, 101)", x, x.part(0, 0, 101), 3);
        Due.refused("part(0, 0, MAX)", x, x.part(0, 0, Integer.MAX_VALUE), 3);
        Due.done("part(0, 0, 1)", x, x.part(0, 0, 1), 1);
        Due.done("part(0, 0, 99)", x, x.part(0, 0, 99), 100);
        Due.refused("part(0, 0, 1): 101 of one", x, x.part(0, 0, 1), 3);
        Due.done("part(0, 1, 100)", x, x.part(0, 1, 100), 200);
        for (int fat = 2; fat < 8; fat++) {
            Due.done("part(0, " + fat + ", 1)", x, x.part(0, fat, 1), 199 + fat);
        }
        Due.refused("part(0, 8, 1): a ninth", x, x.part(0, 8, 1), 8);
        Due.refused("part(0, 9, 101): 3 ahead of 8", x, x.part(0, 9, 101), 3);
        Due.done("part(0, 7, 2): an eighth again", x, x.part(0, 7, 2), 208);
        Due.refused("part(0, 7, 98)", x, x.part(0, 7, 98), 3);
        Due.done("part(0, 7, 97)", x, x.part(0, 7, 97), 305);
        x.recipe(0);
        Due.done("another RECIPE", x, x.part(1, 0, 7), 7);
    }

    private static void promise9Lye() {
        Counted x = new Counted();
        x.fat(1);
        x.fat(1);
        x.fat(0);
        x.row(0, 0, 1000);
        x.row(1, 0, 1001);
        x.recipe(0);
        Due.refused("day(0)", x, x.day(0), 3);
        Due.is("lye of no PARTS", x.lye(0, 1000, 1000), -1);
        Due.is("status() stays", x.status(), 3);
        x.part(0, 0, 1);
        x.part(0, 1, 1);
        Due.is("lye(1, ..)", x.lye(1, 1000, 1000), -1);
        Due.is("lye(-1, ..)", x.lye(-1, 1000, 1000), -1);
        Due.is("lye of weight 0", x.lye(0, 0, 1000), -1);
        Due.is("lye of weight 1,000,001", x.lye(0, 1000001, 1000), -1);
        Due.is("lye at 0", x.lye(0, 1000, 0), -1);
        Due.is("lye at 1,001", x.lye(0, 1000, 1001), -1);
        Due.is("lye of weight 1", x.lye(0, 1, 1000), 0);
        Due.is("lye of weight 1 at 1", x.lye(0, 1, 1), 100);
        Due.is("NEED 1,000.5 is not cut: 20,000", x.lye(0, 20000, 1000), 2001);
        Due.is("NEED 1,000.5 is not cut: 1,000,000", x.lye(0, 1000000, 1000), 100050);
        Due.is("lye of weight 1,000,000 at 1", x.lye(0, 1000000, 1), 100050000);
        Due.is("cut: 19,999", x.lye(0, 19999, 1000), 2000);
        x.part(0, 1, 1);
        Due.is("PARTS 1 to 2", x.lye(0, 30000, 1000), 3002);
        x.part(0, 2, 1);
        Due.is("a FAT without NEED", x.lye(0, 1000, 1000), -1);
        x.recipe(50);
        x.part(1, 0, 100);
        Due.is("SPARE 50", x.lye(1, 1000, 250), 200);
        x.row(0, 0, 9999);
        Due.is("the most lye", x.lye(1, 1000000, 1), 499950000);
        mostLyeOfAll();
    }

    private static void mostLyeOfAll() {
        Counted x = new Counted();
        x.recipe(0);
        for (int fat = 0; fat < 8; fat++) {
            x.fat(1);
            x.row(fat, 0, 9999);
            x.part(0, fat, 100);
        }
        Due.is("the most lye of all", x.lye(0, 1000000, 1), 999900000);
    }

    private static void promise10Lot() {
        Counted x = new Counted();
        x.fat(1);
        Due.refused("lot(1, ..)", x, x.lot(1, 1f, 1, 1), 1);
        Due.refused("lot(-1, ..)", x, x.lot(-1, 1f, 1, 1), 1);
        Due.refused("lot(59, ..)", x, x.lot(59, 1f, 1, 1), 1);
        Due.refused("lot(61, ..)", x, x.lot(61, 1f, 1, 1), 1);
        Due.refused("lot(61, 1, -1, ..): 1 ahead of 3", x, x.lot(61, 1f, -1, 1), 1);
        Due.refused("price -1", x, x.lot(0, 1f, -1, 1), 3);
        Due.refused("price 1,000,001", x, x.lot(0, 1f, 1000001, 1), 3);
        Due.refused("LYE at 0", x, x.lot(60, 1f, 1, 0), 3);
        Due.refused("LYE at -1", x, x.lot(60, 1f, 1, -1), 3);
        Due.refused("LYE at 1,001", x, x.lot(60, 1f, 1, 1001), 3);
        Due.refused("no grams", x, x.lot(0, 0f, 1, 1), 3);
        Due.refused("grams below 0", x, x.lot(0, -1f, 1, 1), 3);
        Due.is("count(3)", x.count(3), 0);
        Due.is("count(6)", x.count(6), 0);
        Due.done("a FAT's STRENGTH does not count", x, x.lot(0, 1f, 0, -7), 1);
        Due.is("left(1, 3)", x.left(1, 3), 0);
        Due.done("a FAT's STRENGTH does not count", x, x.lot(0, 1f, 1000000, 2000), 2);
        Due.is("left(2, 3)", x.left(2, 3), 0);
        Due.done("LYE at 1", x, x.lot(60, 1f, 5, 1), 3);
        Due.done("LYE at 1,000", x, x.lot(60, 1f, 5, 1000), 4);
        Due.is("left(4, 3)", x.left(4, 3), 1000);
        Due.is("count(3)", x.count(3), 4);
        Due.is("count(6)", x.count(6), 1000010);
        Due.is("count(7)", x.count(7), 1000010);
    }

    private static void promise10Reading() {
        Counted x = new Counted();
        Due.refused("0.0999 g", x, x.lot(60, 0.0999f, 1, 1), 3);
        Due.done("0.1 g", x, x.lot(60, 0.1f, 1, 1), 1);
        Due.is("left(1, 1)", x.left(1, 1), 1);
        Due.is("count(11)", x.count(11), 0);
        Due.done("12.345 g", x, x.lot(60, 12.345f, 1, 1), 2);
        Due.is("left(2, 1)", x.left(2, 1), 123);
        float read = 12.345f * 10f;
        Due.is("count(11)", x.count(11), (int) ((read - 123f) * 1000f));
        Due.refused("0 g", x, x.lot(60, 0f, 1, 1), 3);
        Due.is("count(11) stays", x.count(11), (int) ((read - 123f) * 1000f));
        Due.done("0.175 g", x, x.lot(60, 0.175f, 1, 1), 3);
        Due.is("count(11)", x.count(11), 750);
        Due.done("100,000 g", x, x.lot(60, 100000f, 1, 1), 4);
        Due.is("left(4, 1)", x.left(4, 1), 1000000);
        Due.done("100,000.05 g", x, x.lot(60, 100000.05f, 1, 1), 5);
        Due.is("left(5, 1)", x.left(5, 1), 1000000);
        Due.is("count(11) is above 0", x.count(11) > 0, true);
        Due.refused("100,000.1 g", x, x.lot(60, 100000.1f, 1, 1), 3);
        Due.refused("1e30 g", x, x.lot(60, 1e30f, 1, 1), 3);
        Due.refused("the most grams of all", x, x.lot(60, Float.MAX_VALUE, 1, 1), 3);
        Due.refused("grams without end", x, x.lot(60, Float.POSITIVE_INFINITY, 1, 1), 3);
        Due.refused("grams below all", x, x.lot(60, Float.NEGATIVE_INFINITY, 1, 1), 3);
        Due.refused("grams that are no number", x, x.lot(60, Float.NaN, 1, 1), 4);
        Due.refused("no number, and a price: 3 ahead of 4", x, x.lot(60, Float.NaN, -1, 1), 3);
        Due.refused("no number, and a STRENGTH: 3 ahead of 4", x, x.lot(60, Float.NaN, 1, 0), 3);
        x.scale(false);
        Due.refused("broken, grams out of bounds", x, x.lot(60, -5f, 1, 1), 4);
        Due.refused("broken, and a STRENGTH: 3 ahead of 4", x, x.lot(60, 1f, 1, 1001), 3);
    }

    private static void promise10Room() {
        Counted x = new Counted();
        for (int i = 1; i <= 400; i++) {
            Due.is("lot", x.lot(60, i / 10f + 0.05f, i, 1000), i);
        }
        Due.refused("a 401st LOT", x, x.lot(60, 1f, 1, 1), 8);
        Due.refused("a 401st LOT: 3 ahead of 8", x, x.lot(60, 0f, 1, 1), 3);
        Due.refused("a 401st LOT: 4 ahead of 8", x, x.lot(60, Float.NaN, 1, 1), 4);
        Due.is("count(3)", x.count(3), 400);
        Due.is("count(6)", x.count(6), 80200);
        Due.is("stock(60)", x.stock(60), 80200);
        Due.is("left(400, 1)", x.left(400, 1), 400);
    }

    private static void promise11Spill() {
        Counted x = Shop.full();
        Due.refused("spill(2, ..)", x, x.spill(2, 1f), 1);
        Due.refused("spill(-1, ..)", x, x.spill(-1, 1f), 1);
        Due.refused("spill(61, 0): 1 ahead of 3", x, x.spill(61, 0f), 1);
        Due.refused("spill(0, 0)", x, x.spill(0, 0f), 3);
        Due.refused("spill(0, 0.099)", x, x.spill(0, 0.099f), 3);
        Due.refused("spill(0, 100000.1)", x, x.spill(0, 100000.1f), 3);
        Due.refused("spill(0, NaN)", x, x.spill(0, Float.NaN), 4);
        Due.done("spill(0, 0.1)", x, x.spill(0, 0.1f), 1);
        Due.refused("spill(0, 100000): there is less", x, x.spill(0, 100000f), 6);
        Due.is("nothing changed: stock(0)", x.stock(0), 999999);
        Due.is("nothing changed: count(9)", x.count(9), 1);
        Due.done("spill(0, 99999.9)", x, x.spill(0, 99999.9f), 999999);
        Due.is("stock(0)", x.stock(0), 0);
        Due.is("left(1, 1)", x.left(1, 1), 0);
        Due.is("left(1, 2)", x.left(1, 2), 0);
        Due.is("count(9)", x.count(9), 1000000);
        Due.refused("spill(0, 0.1) of none", x, x.spill(0, 0.1f), 6);
        Due.is("other GOODS stay", x.stock(1), 1000000);
        Due.done("spill(60, 50000)", x, x.spill(60, 50000f), 500000);
        Due.is("left(3, 1)", x.left(3, 1), 500000);
        Due.done("spill(60, 0.175)", x, x.spill(60, 0.175f), 1);
        Due.is("count(11) of spill", x.count(11), 750);
        Due.refused("spill(0, 0.15) of none", x, x.spill(0, 0.15f), 6);
        Due.is("count(11) stays", x.count(11), 750);
    }

    private static void promise11Costs() {
        Counted x = new Counted();
        x.fat(1);
        x.fat(1);
        x.lot(0, 1f, 10, 0);
        x.lot(1, 1f, 77, 0);
        x.lot(0, 0.7f, 5, 0);
        x.lot(0, 1f, 9, 0);
        Due.done("3 of 10 for 10", x, x.spill(0, 0.3f), 3);
        Due.done("3 of 7 for 7", x, x.spill(0, 0.3f), 3);
        Due.done("3 of 4 for 4, cut", x, x.spill(0, 0.3f), 3);
        Due.done("the last of LOT 1, 2 of 7 of LOT 3 for 5, cut", x, x.spill(0, 0.3f), 2);
        Due.is("left(1, 1)", x.left(1, 1), 0);
        Due.is("left(3, 1)", x.left(3, 1), 5);
        Due.is("left(3, 2)", x.left(3, 2), 4);
        Due.is("left(2, 1)", x.left(2, 1), 10);
        Due.is("left(4, 2)", x.left(4, 2), 9);
        Due.done("6: 5 of LOT 3, 1 of 10 of LOT 4 for 9, cut", x, x.spill(0, 0.6f), 4);
        Due.is("left(4, 2)", x.left(4, 2), 9);
        Due.is("left(4, 1)", x.left(4, 1), 9);
        Due.is("count(9)", x.count(9), 15);
        Due.is("count(7)", x.count(7), 86);
        Due.is("count(6)", x.count(6), 101);
    }

    private static void promise34Left() {
        Counted x = new Counted();
        x.fat(1);
        x.day(7);
        x.lot(60, 2f, 30, 3);
        x.day(1);
        x.lot(0, 3f, 40, 3);
        int[] lye = {60, 20, 30, 3, 7};
        int[] fat = {0, 30, 40, 0, 8};
        for (int what = 0; what < 5; what++) {
            Due.is("left(1, " + what + ")", x.left(1, what), lye[what]);
            Due.is("left(2, " + what + ")", x.left(2, what), fat[what]);
        }
        Due.is("left(1, 5)", x.left(1, 5), -1);
        Due.is("left(1, -1)", x.left(1, -1), -1);
        Due.is("left(0, 0)", x.left(0, 0), -1);
        Due.is("left(3, 0)", x.left(3, 0), -1);
        Due.is("left(-1, 0)", x.left(-1, 0), -1);
        Due.is("left(MIN, 0)", x.left(Integer.MIN_VALUE, 0), -1);
        Due.refused("day(0)", x, x.day(0), 3);
        Due.is("left(1, 0)", x.left(1, 0), 60);
        Due.is("status() stays", x.status(), 3);
        x.day(8);
        Due.is("STRENGTH after 9 days", x.left(1, 3), 3);
        x.day(1);
        Due.is("STRENGTH after 10 days", x.left(1, 3), 2);
        x.day(10);
        Due.is("STRENGTH after 20 days", x.left(1, 3), 1);
        x.day(10);
        Due.is("STRENGTH after 30 days", x.left(1, 3), 0);
        x.day(10);
        Due.is("STRENGTH after 40 days", x.left(1, 3), 0);
        Due.is("STRENGTH of a FAT", x.left(2, 3), 0);
    }

    private static void promise35Stock() {
        Counted x = Shop.full();
        Due.is("stock(0)", x.stock(0), 1000000);
        Due.is("stock(2)", x.stock(2), -1);
        Due.is("stock(-1)", x.stock(-1), -1);
        Due.is("stock(59)", x.stock(59), -1);
        Due.is("stock(61)", x.stock(61), -1);
        for (int i = 0; i < 390; i++) {
            x.lot(0, 100000f, 0, 0);
        }
        Due.is("stock(0)", x.stock(0), 391000000);
        Due.is("stock(1)", x.stock(1), 1000000);
        Due.is("stock(60)", x.stock(60), 1000000);
        Due.refused("day(0)", x, x.day(0), 3);
        Due.is("stock(60)", x.stock(60), 1000000);
        Due.is("status() stays", x.status(), 3);
    }
}
