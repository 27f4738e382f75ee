/** Promises 25, 26 and 32: hours, days, fruit that becomes late, and what is counted. */
final class TimeTest {
    public static void main(String[] args) {
        Check c = new Check();
        waits(c);
        lates(c);
        latesByState(c);
        fresh(c);
        freshOfEachDay(c);
        counts(c);
        c.end();
    }

    private static void waits(Check c) {
        c.part("promise 25");
        OilPress x = new OilPress();
        c.due("wait(-1)", x.wait(-1), -1);
        c.due("wait(101)", x.wait(101), -1);
        c.due("count(4)", x.count(4), 0);
        c.due("wait(0)", x.wait(0), 0);
        c.due("wait(9)", x.wait(9), 9);
        c.due("count(3)", x.count(3), 0);
        c.due("wait(1)", x.wait(1), 10);
        c.due("count(3)", x.count(3), 1);
        for (int hour = 110; hour < 999; hour += 100) {
            c.due("wait(100)", x.wait(100), Math.min(999, hour));
            c.due("count(4)", x.count(4), Math.min(999, hour));
            c.due("count(3)", x.count(3), Math.min(999, hour) / 10);
        }
        c.due("wait(88)", x.wait(88), 998);
        c.due("wait(100)", x.wait(100), 999);
        c.due("wait(0)", x.wait(0), 999);
        c.due("wait(1)", x.wait(1), 999);
        c.due("count(3)", x.count(3), 99);
        c.due("count(4)", x.count(4), 999);
    }

    private static void lates(Check c) {
        OilPress x = Village.withGroves();
        x.wait(9);
        for (int kind = 0; kind < 5; kind++) {
            x.lot(kind, 0);
        }
        x.wait(30);
        c.due("day 3, count(10)", x.count(10), 0);
        c.due("day 3, told(0, 0)", x.told(0, 0), 0);
        x.wait(1);
        int[] want = {3, 3, 3, 3, 4};
        for (int lot = 0; lot < 5; lot++) {
            c.due("day 4, told(" + lot + ", 0)", x.told(lot, 0), want[lot]);
            c.due("day 4, told(" + lot + ", 2)", x.told(lot, 2), 0);
        }
        c.due("day 4, count(10)", x.count(10), 3);
        x.wait(100);
        c.due("day 14, count(10)", x.count(10), 3);
        x.lot(0, 0);
        x.wait(39);
        c.due("day 17, told(5, 0)", x.told(5, 0), 0);
        x.wait(100);
        c.due("day 27, told(5, 0)", x.told(5, 0), 3);
        c.due("day 27, count(10)", x.count(10), 4);
    }

    private static void latesByState(Check c) {
        OilPress x = Village.withGroves();
        for (int i = 0; i < 7; i++) {
            x.lot(0, 0);
        }
        x.scale(7);
        for (int i = 1; i < 7; i++) {
            x.weigh(i, 80);
        }
        for (int i = 2; i < 7; i++) {
            x.sample(i, 100, 10);
        }
        x.vat(2, false, 500);
        Village.shared(x, 0, 10, 6);
        x.pour(0, 0);
        Village.shared(x, 0, 10, 5);
        Village.pressed(x, 1, 4);
        x.put(3, 2);
        x.wait(50);
        int[] states = {0, 1, 2, 3, 4, 5, 6};
        for (int lot = 0; lot < 7; lot++) {
            c.due("told(" + lot + ", 3)", x.told(lot, 3), states[lot]);
            c.due("told(" + lot + ", 0)", x.told(lot, 0), lot < 3 ? 3 : 0);
        }
        c.due("count(10)", x.count(10), 3);
    }

    private static void fresh(Check c) {
        c.part("promise 26");
        OilPress x = Village.withGroves();
        x.lot(0, 0);
        c.due("fresh(-1)", x.fresh(-1), false);
        c.due("fresh(11)", x.fresh(11), false);
        x.wait(39);
        c.due("day 3", x.told(0, 0), 0);
        c.due("fresh(10)", x.fresh(10), true);
        c.due("fresh(11)", x.fresh(11), false);
        x.wait(70);
        c.due("day 10", x.told(0, 0), 0);
        x.wait(1);
        c.due("day 11", x.told(0, 0), 3);
        OilPress y = Village.withGroves();
        y.lot(2, 0);
        c.due("fresh(0)", y.fresh(0), true);
        y.wait(9);
        c.due("day 0", y.told(0, 0), 2);
        y.wait(1);
        c.due("day 1", y.told(0, 0), 3);
    }

    private static void freshOfEachDay(Check c) {
        OilPress x = Village.withGroves();
        x.lot(1, 0);
        x.wait(25);
        x.fresh(1);
        c.due("not at once", x.told(0, 0), 1);
        x.wait(4);
        c.due("not within the day", x.told(0, 0), 1);
        x.wait(1);
        c.due("when the day begins", x.told(0, 0), 3);
        x.fresh(10);
        c.due("late it stays", x.told(0, 0), 3);
        c.due("count(10)", x.count(10), 1);
    }

    private static void counts(Check c) {
        c.part("promise 32");
        OilPress x = Village.withGroves();
        int vat = Village.filled(x, 1, 1000, Village.PLAIN);
        x.draw(vat, 7);
        x.lend(1, vat, 11);
        x.fetch(0);
        x.lot(2, 0);
        x.fresh(0);
        x.wait(21);
        x.scale(9);
        x.weigh(1, 8);
        Village.pressed(x, 1, Village.sampled(x, 0, 0, 10, 10, 10));
        x.gave(1, 5);
        x.scale(9);
        x.weigh(1, -1);
        x.lot(0, 0);
        x.weigh(3, -1);
        int hour = x.count(4);
        Due.counts(c, x, "some of each", 3, 4, 1, hour / 10, hour, 8, 1005, 500, 7, 11, 1);
        c.due("hour", hour, 10 + 21 + 1);
        c.due("count(-1)", x.count(-1), -1);
        c.due("count(11)", x.count(11), -1);
    }
}
