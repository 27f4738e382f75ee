/** Promises 29 and 30: the order of a mill's pressings. ModelTest compares plans with every order. */
final class PlanTest {
    private static final int PLAIN = Village.PLAIN;
    private static final int CLEAN = Village.CLEAN;
    private static final int LATE = Village.LATE;

    public static void main(String[] args) {
        Check c = new Check();
        plansOfNone(c);
        whichLots(c);
        howMany(c);
        fewestLate(c);
        endsFirst(c);
        someLate(c);
        leastNumbers(c);
        washingAtFirst(c);
        firstHourOfTheDay(c);
        freshCounts(c);
        latestPlan(c);
        c.end();
    }

    private static void plansOfNone(Check c) {
        c.part("promise 29");
        OilPress x = Village.withGroves();
        for (int i = -3; i < 9; i++) {
            c.due("no plan, planned(" + i + ")", x.planned(i), -1);
        }
        c.due("plan(-1)", x.plan(-1), -1);
        c.due("plan(3)", x.plan(3), -1);
        c.due("no plan, planned(-2)", x.planned(-2), -1);
        x.wait(7);
        c.due("plan(2)", x.plan(2), 0);
        Due.plan(c, x, "no lots", 0, 7);
        x.wash(1);
        c.due("plan(1)", x.plan(1), 0);
        Due.plan(c, x, "no lots, busy", 0, 9);
    }

    private static void whichLots(Check c) {
        OilPress x = Village.withGroves();
        x.fresh(10);
        int[] kinds = {0, 1, 2, 3, 4, 0, 2, 3, 0};
        for (int kind : kinds) {
            Village.sampled(x, kind, 0, 10, 100, 10);
        }
        x.put(5, 1);
        x.put(7, 2);
        x.mill(0, 20000, 100);
        c.due("plan(0)", x.plan(0), 5);
        Due.plan(c, x, "those in state 2", 0, 7, 0, 2, 6, 3, 8);
        x.take(5);
        x.lot(0, 0);
        x.scale(1);
        x.weigh(x.lot(2, 0), 8);
        c.due("plan(0)", x.plan(0), 6);
        Due.plan(c, x, "one more", 0, 8, 0, 2, 6, 3, 5, 8);
    }

    private static void howMany(Check c) {
        OilPress x = Village.withGroves();
        for (int i = 0; i < 8; i++) {
            Village.sampled(x, LATE, 0, 10, 100, 10);
        }
        c.due("eight", x.plan(0), 8);
        Due.plan(c, x, "eight", 0, 8, 0, 1, 2, 3, 4, 5, 6, 7);
        Village.sampled(x, PLAIN, 0, 10, 100, 10);
        x.wait(2);
        c.due("nine", x.plan(0), -1);
        Due.plan(c, x, "the latest stays", 0, 8, 0, 1, 2, 3, 4, 5, 6, 7);
        x.put(0, 1);
        c.due("eight again", x.plan(0), 8);
        Due.plan(c, x, "eight again", 0, 10, 1, 2, 3, 4, 5, 6, 7, 8);
    }

    private static void fewestLate(Check c) {
        OilPress x = Village.withGroves();
        x.fresh(0);
        x.mill(0, 0, 100);
        Village.sampled(x, PLAIN, 0, 90, 100, 10);
        Village.sampled(x, PLAIN, 0, 40, 100, 10);
        Village.sampled(x, LATE, 0, 10, 100, 10);
        Village.sampled(x, PLAIN, 0, 50, 100, 10);
        Village.sampled(x, PLAIN, 0, 20, 100, 10);
        c.due("plan(0)", x.plan(0), 5);
        Due.plan(c, x, "fewest too late", 1, 21, 1, 2, 4, 0, 3);
    }

    private static void endsFirst(Check c) {
        OilPress x = Village.withGroves();
        x.mill(0, 0, 100);
        Village.sampled(x, CLEAN, 0, 10, 100, 10);
        Village.sampled(x, CLEAN, 2, 10, 100, 10);
        Village.sampled(x, PLAIN, 0, 10, 100, 10);
        Village.sampled(x, CLEAN, 1, 10, 100, 10);
        Village.sampled(x, CLEAN, 2, 10, 100, 10);
        c.due("plan(0)", x.plan(0), 5);
        Due.plan(c, x, "fewest washings", 0, 9, 0, 3, 1, 4, 2);
        OilPress y = Village.withGroves();
        y.mill(0, 0, 100);
        Village.sampled(y, PLAIN, 0, 80, 100, 10);
        Village.sampled(y, CLEAN, 0, 50, 100, 10);
        y.wait(31);
        Village.sampled(y, CLEAN, 1, 100, 100, 10);
        c.due("plan(0)", y.plan(0), 3);
        Due.plan(c, y, "fewest too late ahead of the end", 0, 58, 1, 0, 2);
    }

    /** The like 0 is one like another; those that are late already come last and are none of the late ones. */
    private static void someLate(Check c) {
        OilPress x = new OilPress();
        x.grove(0, 0);
        x.grove(0, 9);
        x.mill(2, 0, 100);
        x.fresh(0);
        Village.sampled(x, LATE, 0, 10, 100, 10);
        Village.sampled(x, CLEAN, 0, 10, 100, 10);
        Village.sampled(x, CLEAN, 1, 10, 100, 10);
        Village.sampled(x, CLEAN, 0, 10, 100, 10);
        Village.sampled(x, CLEAN, 1, 10, 100, 10);
        c.due("plan(2)", x.plan(2), 5);
        Due.plan(c, x, "none too late", 0, 9, 0, 1, 3, 2, 4);
        x.wait(5);
        c.due("plan(2)", x.plan(2), 5);
        Due.plan(c, x, "two too late", 2, 14, 0, 1, 3, 2, 4);
        x.wait(2);
        c.due("plan(2)", x.plan(2), 5);
        Due.plan(c, x, "three too late", 3, 16, 1, 3, 0, 2, 4);
        x.wash(2);
        x.wait(2);
        c.due("plan(2)", x.plan(2), 5);
        Due.plan(c, x, "three too late, washed", 3, 16, 1, 3, 0, 2, 4);
        x.wait(1);
        c.due("plan(2)", x.plan(2), 5);
        Due.plan(c, x, "all late, none too late", 0, 15, 0, 1, 2, 3, 4);
    }

    private static void leastNumbers(Check c) {
        OilPress x = Village.withGroves();
        x.mill(0, 0, 100);
        for (int i = 0; i < 4; i++) {
            Village.sampled(x, PLAIN, 0, 10 * (4 - i), 100, 10);
        }
        c.due("plan(0)", x.plan(0), 4);
        Due.plan(c, x, "all like", 0, 10, 0, 1, 2, 3);
        x.fresh(0);
        x.wait(3);
        c.due("plan(0)", x.plan(0), 4);
        Due.plan(c, x, "one at the edge", 0, 13, 1, 2, 3, 0);
        x.wait(1);
        c.due("plan(0)", x.plan(0), 4);
        Due.plan(c, x, "one over the edge", 1, 14, 0, 3, 1, 2);
    }

    private static void washingAtFirst(Check c) {
        OilPress x = Village.withGroves();
        x.vat(2, true, 500);
        x.vat(2, false, 500);
        int one = Village.sampled(x, CLEAN, 0, 100, 100, 10);
        int two = Village.sampled(x, CLEAN, 1, 100, 100, 10);
        int other = Village.sampled(x, CLEAN, 2, 100, 100, 10);
        x.plan(0);
        Due.plan(c, x, "not washed", 0, 10, one, two, other);
        x.wash(0);
        x.plan(0);
        Due.plan(c, x, "washed and busy", 0, 10, one, two, other);
        x.wait(2);
        x.plan(0);
        Due.plan(c, x, "washed", 0, 10, one, two, other);
        x.put(other, 0);
        x.press(0);
        int third = Village.sampled(x, CLEAN, 2, 100, 100, 10);
        x.plan(0);
        Due.plan(c, x, "its latest pressing's like", 0, 12, third, one, two);
        x.wait(2);
        x.gave(0, 10);
        x.share(0);
        x.plan(0);
        Due.plan(c, x, "pressing, not busy", 0, 12, third, one, two);
        x.pour(0, 0);
        x.plan(0);
        Due.plan(c, x, "poured", 0, 12, third, one, two);
        x.plan(1);
        Due.plan(c, x, "another mill", 0, 14, one, two, third);
        Village.shared(x, 0, 10, Village.sampled(x, PLAIN, 0, 10, 10, 10));
        x.pour(0, 1);
        x.mill(0, 0, 500);
        x.plan(0);
        Due.plan(c, x, "behind a plain one", 0, x.count(4) + 10, one, two, third);
    }

    private static void firstHourOfTheDay(Check c) {
        for (int kilos = 389; kilos <= 391; kilos++) {
            OilPress x = Village.withGroves();
            x.mill(0, 0, 100);
            Village.sampled(x, PLAIN, 0, kilos, 100, 10);
            Village.sampled(x, PLAIN, 0, 400, 100, 10);
            x.plan(0);
            boolean late = kilos == 391;
            Due.plan(c, x, kilos + " kilos", late ? 1 : 0, late ? 80 : 79, 0, 1);
        }
        OilPress x = Village.withGroves();
        x.mill(0, 0, 100);
        int first = Village.sampled(x, LATE, 0, 380, 100, 10);
        int clean = Village.sampled(x, CLEAN, 0, 100, 100, 10);
        x.wait(1);
        x.plan(0);
        Due.plan(c, x, "clean, the hours begin behind washing", 0, 51, clean, first);
        x.put(first, 1);
        x.wait(37);
        x.plan(0);
        Due.plan(c, x, "at 38 and 2 it is too late", 1, 50, clean);
        x.wait(2);
        c.due("late", x.told(clean, 0), LATE);
        x.plan(0);
        Due.plan(c, x, "one that is late is not too late", 0, 50, clean);
    }

    private static void freshCounts(Check c) {
        OilPress x = Village.withGroves();
        x.fresh(10);
        int lot = Village.sampled(x, PLAIN, 0, 10, 100, 10);
        x.wait(50);
        x.wash(0);
        x.plan(0);
        Due.plan(c, x, "fresh for ten days", 0, 53, lot);
        x.fresh(0);
        x.plan(0);
        Due.plan(c, x, "late from the day behind this one on", 0, 53, lot);
        x.wait(8);
        x.wash(0);
        x.plan(0);
        Due.plan(c, x, "begins on the day behind this one", 1, 61, lot);
        x.fresh(6);
        x.plan(0);
        Due.plan(c, x, "late on day 7", 0, 61, lot);
        x.fresh(5);
        x.plan(0);
        Due.plan(c, x, "late on day 6", 1, 61, lot);
    }

    private static void latestPlan(Check c) {
        c.part("promise 30");
        OilPress x = Village.withGroves();
        int one = Village.sampled(x, PLAIN, 0, 10, 100, 10);
        int two = Village.sampled(x, PLAIN, 0, 10, 100, 10);
        x.plan(0);
        x.put(one, 0);
        x.press(0);
        x.wait(100);
        Due.plan(c, x, "it stays as it was made", 0, 2, one, two);
        c.due("plan(3)", x.plan(3), -1);
        Due.plan(c, x, "refused", 0, 2, one, two);
        x.put(two, 1);
        x.plan(1);
        Due.plan(c, x, "of none", 0, 100);
        c.due("planned(least)", x.planned(Integer.MIN_VALUE), -1);
        c.due("planned(most)", x.planned(Integer.MAX_VALUE), -1);
    }
}
