/** Promises 1 to 8: what comes, is weighed, sampled and told. */
final class FruitTest {
    public static void main(String[] args) {
        Check c = new Check();
        anew(c);
        groves(c);
        lots(c);
        lotsMost(c);
        wishes(c);
        scales(c);
        weighings(c);
        weighingsRefused(c);
        samples(c);
        told(c);
        c.end();
    }

    private static void anew(Check c) {
        c.part("promise 1");
        OilPress x = new OilPress();
        Due.counts(c, x, "anew", 0, 0, 0, 0, 0, -1, 0, 0, 0, 0, 0);
        for (int mill = 0; mill < 3; mill++) {
            Due.at(c, x, mill, "anew", 1000, 500, 0, 0, 0, 0, -1, 0, -1, 0, -1);
        }
        c.due("balance()", x.balance(), 0);
        c.due("told(0, 0)", x.told(0, 0), -1);
        c.due("held(0, 0)", x.held(0, 0), -1);
        c.due("planned(-1)", x.planned(-1), -1);
        c.due("planned(-2)", x.planned(-2), -1);
        for (int farmer = 0; farmer < 40; farmer++) {
            for (int sort = 0; sort < 3; sort++) {
                c.due("owes(" + farmer + ", " + sort + ")", x.owes(farmer, sort), 0);
            }
        }
        x.grove(1, 1);
        c.due("another object's groves", new OilPress().count(0), 0);
    }

    private static void groves(Check c) {
        c.part("promise 2");
        OilPress x = new OilPress();
        c.due("grove(-1, 0)", x.grove(-1, 0), -1);
        c.due("grove(40, 0)", x.grove(40, 0), -1);
        c.due("grove(0, -1)", x.grove(0, -1), -1);
        c.due("grove(0, 10)", x.grove(0, 10), -1);
        c.due("none came", x.count(0), 0);
        c.due("grove(39, 9)", x.grove(39, 9), 0);
        c.due("grove(0, 0)", x.grove(0, 0), 1);
        for (int i = 2; i < 60; i++) {
            c.due("grove " + i, x.grove(i % 40, i % 10), i);
        }
        c.due("grove 60", x.grove(3, 3), -1);
        c.due("count(0)", x.count(0), 60);
        c.due("lot of grove 59", x.lot(0, 59), 0);
        c.due("lot of grove 60", x.lot(0, 60), -1);
    }

    private static void lots(Check c) {
        c.part("promise 3");
        OilPress x = Village.withGroves();
        c.due("lot(-1, 0)", x.lot(-1, 0), -1);
        c.due("lot(5, 0)", x.lot(5, 0), -1);
        c.due("lot(0, -1)", x.lot(0, -1), -1);
        c.due("lot(0, 3)", x.lot(0, 3), -1);
        c.due("none came", x.count(1), 0);
        x.wait(29);
        for (int kind = 0; kind < 5; kind++) {
            c.due("lot of kind " + kind, x.lot(kind, 2), kind);
            Due.told(c, x, kind, "anew", kind, 2, 2, 0, 0, 0, 0, 0, 0, -1, kind == 0 || kind == 3 ? 0 : 1);
        }
        c.due("count(1)", x.count(1), 5);
        x.wait(1);
        c.due("lot(0, 0)", x.lot(0, 0), 5);
        c.due("told(5, 2)", x.told(5, 2), 3);
    }

    private static void lotsMost(Check c) {
        c.part("promise 3");
        OilPress x = Village.withGroves();
        for (int i = 0; i < 200; i++) {
            c.due("lot " + i, x.lot(i % 5, i % 3), i);
        }
        c.due("lot 200", x.lot(0, 0), -1);
        c.due("count(1)", x.count(1), 200);
        c.due("told(199, 1)", x.told(199, 1), 1);
        c.due("told(200, 1)", x.told(200, 1), -1);
        c.due("told(201, 1)", x.told(201, 1), -1);
    }

    private static void wishes(Check c) {
        c.part("promise 4");
        OilPress x = Village.withGroves();
        for (int kind = 0; kind < 5; kind++) {
            x.lot(kind, 0);
            boolean may = kind != Village.DEBT;
            c.due("wish(" + kind + ", true)", x.wish(kind, true), may);
            c.due("told(" + kind + ", 10)", x.told(kind, 10), 1);
            c.due("wish(" + kind + ", false)", x.wish(kind, false), may);
            c.due("told(" + kind + ", 10)", x.told(kind, 10), kind == 0 || kind == 3 ? 0 : 1);
        }
        c.due("wish(-1, true)", x.wish(-1, true), false);
        c.due("wish(5, true)", x.wish(5, true), false);
        x.scale(5);
        x.weigh(0, 800);
        c.due("in state 1", x.wish(0, true), true);
        x.sample(0, 100, 10);
        c.due("in state 2", x.wish(0, false), true);
        x.put(0, 0);
        c.due("in state 3", x.wish(0, true), false);
        x.press(0);
        c.due("in state 4", x.wish(0, true), false);
        c.due("told(0, 10)", x.told(0, 10), 0);
        wishesOfLate(c);
    }

    private static void wishesOfLate(Check c) {
        OilPress x = Village.withGroves();
        for (int kind = 0; kind < 4; kind++) {
            x.lot(kind, 0);
            x.wish(x.lot(kind, 0), true);
        }
        x.wait(40);
        for (int lot = 0; lot < 8; lot++) {
            c.due("late, told(" + lot + ", 0)", x.told(lot, 0), 3);
            c.due("late, told(" + lot + ", 10)", x.told(lot, 10), lot % 2);
        }
        c.due("late, wish(2, true)", x.wish(2, true), true);
        c.due("told(2, 10)", x.told(2, 10), 1);
    }

    private static void scales(Check c) {
        c.part("promise 5");
        OilPress x = Village.withGroves();
        c.due("scale(-1)", x.scale(-1), false);
        c.due("scale(31)", x.scale(31), false);
        c.due("count(5)", x.count(5), -1);
        c.due("scale(0)", x.scale(0), true);
        c.due("count(5)", x.count(5), 0);
        c.due("scale(30)", x.scale(30), true);
        c.due("count(5)", x.count(5), 30);
        x.weigh(x.lot(0, 0), 8);
        c.due("count(5), one used", x.count(5), 29);
        c.due("scale(31)", x.scale(31), false);
        c.due("count(5), as it was", x.count(5), 29);
        c.due("scale(2), none used", x.scale(2), true);
        c.due("count(5)", x.count(5), 2);
        x.wait(9);
        c.due("count(5), the same day", x.count(5), 2);
        x.wait(1);
        c.due("count(5), another day", x.count(5), -1);
    }

    private static void weighings(Check c) {
        c.part("promise 6");
        OilPress x = Village.withGroves();
        int[] eighths = {1, 2, 3, 4, 7, 8, 9, 79999, 80000};
        int[] tenths = {1, 2, 3, 5, 8, 10, 11, 99998, 100000};
        x.scale(30);
        for (int i = 0; i < eighths.length; i++) {
            x.lot(i % 5, 0);
            c.due("weigh(" + i + ", " + eighths[i] + ")", x.weigh(i, eighths[i]), tenths[i]);
            c.due("told(" + i + ", 4)", x.told(i, 4), tenths[i]);
            c.due("told(" + i + ", 3)", x.told(i, 3), 1);
            c.due("count(5)", x.count(5), 29 - i);
        }
    }

    private static void weighingsRefused(Check c) {
        c.part("promise 6");
        OilPress x = Village.withGroves();
        x.lot(0, 0);
        x.lot(0, 0);
        c.due("no such lot, no scale", x.weigh(2, 8), -1);
        c.due("no such eighths, no scale", x.weigh(0, 0), -1);
        c.due("no scale", x.weigh(0, 8), -2);
        c.due("no scale, not measured", x.weigh(0, -1), -2);
        x.scale(3);
        c.due("weigh(-1, 8)", x.weigh(-1, 8), -1);
        c.due("weigh(2, 8)", x.weigh(2, 8), -1);
        c.due("weigh(0, 0)", x.weigh(0, 0), -1);
        c.due("weigh(0, -2)", x.weigh(0, -2), -1);
        c.due("weigh(0, 80001)", x.weigh(0, 80001), -1);
        c.due("no place used", x.count(5), 3);
        c.due("weigh(0, -1)", x.weigh(0, -1), -3);
        c.due("a place used", x.count(5), 2);
        c.due("told(0, 3)", x.told(0, 3), 0);
        c.due("told(0, 4)", x.told(0, 4), 0);
        c.due("weigh(0, 8)", x.weigh(0, 8), 10);
        c.due("in state 1", x.weigh(0, 8), -1);
        c.due("in state 1, not measured", x.weigh(0, -1), -1);
        c.due("a place left", x.count(5), 1);
        c.due("weigh(1, -1)", x.weigh(1, -1), -3);
        c.due("all used", x.weigh(1, 8), -2);
        c.due("all used, not measured", x.weigh(1, -1), -2);
        c.due("all used, in state 1", x.weigh(0, 8), -1);
        c.due("all used, no such eighths", x.weigh(1, 80001), -1);
        c.due("count(5)", x.count(5), 0);
        x.scale(1);
        x.wait(10);
        c.due("yesterday's scale", x.weigh(1, 8), -2);
    }

    private static void samples(Check c) {
        c.part("promise 7");
        OilPress x = Village.withGroves();
        x.lot(0, 0);
        x.lot(4, 0);
        x.scale(5);
        c.due("in state 0", x.sample(0, 100, 10), false);
        x.weigh(0, 8);
        x.weigh(1, 8);
        c.due("sample(-1, 100, 10)", x.sample(-1, 100, 10), false);
        c.due("sample(2, 100, 10)", x.sample(2, 100, 10), false);
        c.due("sample(0, 0, 10)", x.sample(0, 0, 10), false);
        c.due("sample(0, 401, 10)", x.sample(0, 401, 10), false);
        c.due("sample(0, 100, -1)", x.sample(0, 100, -1), false);
        c.due("sample(0, 100, 1000)", x.sample(0, 100, 1000), false);
        c.due("told(0, 3)", x.told(0, 3), 1);
        c.due("told(0, 5)", x.told(0, 5), 0);
        c.due("told(0, 6)", x.told(0, 6), 0);
        c.due("sample(0, 1, 0)", x.sample(0, 1, 0), true);
        c.due("told(0, 5)", x.told(0, 5), 1);
        c.due("told(0, 6)", x.told(0, 6), 0);
        c.due("told(0, 3)", x.told(0, 3), 2);
        c.due("in state 2", x.sample(0, 100, 10), false);
        c.due("sample(1, 400, 999)", x.sample(1, 400, 999), true);
        c.due("told(1, 5)", x.told(1, 5), 400);
        c.due("told(1, 6)", x.told(1, 6), 999);
    }

    private static void told(Check c) {
        c.part("promise 8");
        OilPress x = Village.withGroves();
        x.wait(10);
        int lot = Village.sampled(x, Village.LATE, 2, 100, 200, 30);
        Due.told(c, x, lot, "sampled", 3, 2, 1, 2, 1000, 200, 30, 0, 0, -1, 0);
        x.put(lot, 2);
        Due.told(c, x, lot, "in a bin", 3, 2, 1, 3, 1000, 200, 30, 0, 0, 2, 0);
        x.wait(x.press(2));
        Due.told(c, x, lot, "pressed", 3, 2, 1, 4, 1000, 200, 30, 0, 0, 2, 0);
        x.gave(2, 100);
        x.share(2);
        Due.told(c, x, lot, "shared", 3, 2, 1, 5, 1000, 200, 30, 90, 0, 2, 0);
        x.vat(0, false, 500);
        x.vat(1, false, 500);
        x.pour(2, 1);
        Due.told(c, x, lot, "poured", 3, 2, 1, 6, 1000, 200, 30, 90, 90, 1, 0);
        x.fetch(lot);
        Due.told(c, x, lot, "fetched", 3, 2, 1, 6, 1000, 200, 30, 90, 0, 1, 0);
        c.due("told(0, -1)", x.told(0, -1), -1);
        c.due("told(0, 11)", x.told(0, 11), -1);
        c.due("told(-1, 0)", x.told(-1, 0), -1);
        c.due("told(1, 0)", x.told(1, 0), -1);
    }
}
