/** Terms 1 (hours, days, scales, lots that become late) and promises 5, 25, 26 and 32, bound by bound. */
final class EdgesOfDaysTest {
    private static final int PLAIN = Village.PLAIN;
    private static final int SMALL = Village.SMALL;
    private static final int CLEAN = Village.CLEAN;
    private static final int LATE = Village.LATE;
    private static final int DEBT = Village.DEBT;

    public static void main(String[] args) {
        Check c = new Check();
        hours(c);
        days(c);
        dayOfALot(c);
        lateByDays(c);
        lateByFresh(c);
        lateByState(c);
        lateAsADayBegins(c);
        wishOfLate(c);
        noScale(c);
        scalePlaces(c);
        scaleAnew(c);
        waits(c);
        eachDayBegins(c);
        freshNumbers(c);
        freshFromNowOn(c);
        countsOf(c);
        countOfPlaces(c);
        countOfLate(c);
        c.end();
    }

    private static void hours(Check c) {
        c.part("terms 1: NOW is an HOUR (0 at first, 999 at most)");
        OilPress x = new OilPress();
        c.due("at first", x.count(4), 0);
        Village.till(x, 998);
        c.due("the last but one", x.count(4), 998);
        c.due("the last", x.wait(1), 999);
        c.due("behind the last", x.wait(1), 999);
        c.due("far behind the last", x.wait(100), 999);
        c.due("it stays", x.count(4), 999);
        for (int hour = 898; hour <= 900; hour++) {
            OilPress y = new OilPress();
            Village.till(y, hour);
            c.due("100 behind " + hour, y.wait(100), Math.min(999, hour + 100));
        }
    }

    private static void days(Check c) {
        c.part("terms 1: DAY d is the HOURS 10 d to 10 d + 9");
        OilPress x = new OilPress();
        for (int day = 0; day < 100; day++) {
            c.due("hour " + 10 * day, x.count(3), day);
            x.wait(9);
            c.due("hour " + (10 * day + 9), x.count(3), day);
            x.wait(1);
        }
        c.due("no day behind the last", x.count(3), 99);
    }

    private static void dayOfALot(Check c) {
        c.part("terms 1: LOTS have the DAY on which they came");
        int[] hours = {0, 9, 10, 989, 990, 999};
        for (int hour : hours) {
            OilPress x = Village.withGroves();
            Village.till(x, hour);
            int lot = x.lot(PLAIN, 0);
            c.due("came at " + hour, x.told(lot, 2), hour / 10);
            x.wait(100);
            c.due("came at " + hour + ", later", x.told(lot, 2), hour / 10);
        }
    }

    private static void lateByDays(Check c) {
        c.part("terms 1: becomes LATE, if it came more than FRESH DAYS before (3 at first)");
        for (int hour = 0; hour < 10; hour += 9) {
            OilPress x = Village.withGroves();
            x.wait(hour);
            int lot = x.lot(PLAIN, 0);
            Village.till(x, 39);
            c.due("three days behind " + hour, x.told(lot, 0), PLAIN);
            Village.till(x, 40);
            c.due("four days behind " + hour, x.told(lot, 0), LATE);
        }
        OilPress x = Village.withGroves();
        Village.till(x, 10);
        x.lot(PLAIN, 0);
        Village.till(x, 49);
        c.due("day 1, on day 4", x.told(0, 0), PLAIN);
        Village.till(x, 50);
        c.due("day 1, on day 5", x.told(0, 0), LATE);
    }

    private static void lateByFresh(Check c) {
        c.part("terms 1: more than FRESH DAYS, for each FRESH");
        for (int fresh = 0; fresh <= 10; fresh++) {
            OilPress x = Village.withGroves();
            x.fresh(fresh);
            x.lot(SMALL, 0);
            Village.till(x, 10 * fresh + 9);
            c.due("FRESH " + fresh + ", as many days", x.told(0, 0), SMALL);
            x.wait(1);
            c.due("FRESH " + fresh + ", one more", x.told(0, 0), LATE);
        }
    }

    private static void lateByState(Check c) {
        c.part("terms 1: each LOT in STATE 0 to 2 that is PLAIN, SMALL or CLEAN becomes LATE");
        for (int kind = 0; kind < 5; kind++) {
            OilPress x = Village.lotOfEachState(kind);
            Village.till(x, 39);
            c.due("of kind " + kind + ", none yet", x.count(10), 0);
            Village.till(x, 40);
            boolean may = kind == PLAIN || kind == SMALL || kind == CLEAN;
            for (int lot = 0; lot < 7; lot++) {
                String when = "kind " + kind + " in state " + lot;
                c.due(when, x.told(lot, 0), may && lot <= 2 ? LATE : kind);
                c.due(when + ", the state", x.told(lot, 3), lot);
            }
            c.due("of kind " + kind + ", became LATE", x.count(10), may ? 3 : 0);
        }
    }

    private static void lateAsADayBegins(Check c) {
        c.part("terms 1: When a DAY begins");
        OilPress x = Village.lotOfEachState(PLAIN);
        Village.till(x, 45);
        x.take(3);
        c.due("out of the bin on day 4", x.told(3, 0), PLAIN);
        Village.till(x, 49);
        c.due("the last hour of day 4", x.told(3, 0), PLAIN);
        x.wait(0);
        c.due("no hour later", x.told(3, 0), PLAIN);
        x.wait(1);
        c.due("day 5 begins", x.told(3, 0), LATE);
    }

    private static void wishOfLate(Check c) {
        c.part("terms 1: its wish stays; that of SMALL and CLEAN ones is none then, but as told by wish()");
        int[] kinds = {PLAIN, SMALL, CLEAN};
        for (int kind : kinds) {
            OilPress x = Village.withGroves();
            int none = x.lot(kind, 0);
            int with = x.lot(kind, 0);
            int without = x.lot(kind, 0);
            x.wish(with, true);
            x.wish(without, true);
            x.wish(without, false);
            Village.till(x, 39);
            c.due("kind " + kind + ", not late", x.told(without, 10), kind == PLAIN ? 0 : 1);
            Village.till(x, 40);
            c.due("kind " + kind + ", no wish", x.told(none, 10), 0);
            c.due("kind " + kind + ", with others", x.told(with, 10), 1);
            c.due("kind " + kind + ", told last: without", x.told(without, 10), 0);
            c.due("kind " + kind + ", a wish as it is late", x.wish(none, true), true);
            c.due("kind " + kind + ", with others by that", x.told(none, 10), 1);
        }
    }

    private static void noScale(Check c) {
        c.part("terms 1: a DAY has no SCALE, but as scale() tells");
        OilPress x = Village.withGroves();
        x.lot(PLAIN, 0);
        c.due("day 0", x.count(5), -1);
        c.due("day 0", x.weigh(0, 8), -2);
        x.scale(3);
        x.wait(9);
        c.due("the day's last hour", x.count(5), 3);
        x.wait(1);
        c.due("day 1", x.count(5), -1);
        c.due("day 1", x.weigh(0, 8), -2);
        x.scale(3);
        x.wait(0);
        c.due("no hour later", x.count(5), 3);
        Village.till(x, 999);
        x.scale(2);
        x.wait(100);
        c.due("no day begins behind the last", x.count(5), 2);
    }

    private static void scalePlaces(Check c) {
        c.part("promise 5: n places (0 .. 30); false for another n");
        for (int n = 0; n <= 30; n++) {
            OilPress x = new OilPress();
            c.due("scale(" + n + ")", x.scale(n), true);
            c.due("places of " + n, x.count(5), n);
        }
        OilPress x = new OilPress();
        for (int n : Village.outside(0, 30)) {
            c.due("scale(" + n + ")", x.scale(n), false);
            c.due("none by " + n, x.count(5), -1);
        }
    }

    private static void scaleAnew(Check c) {
        c.part("promise 5: in place of what it had, none of them used");
        OilPress x = Village.withGroves();
        for (int lot = 0; lot < 3; lot++) {
            x.lot(PLAIN, 0);
        }
        x.scale(2);
        x.weigh(0, 8);
        c.due("one used", x.count(5), 1);
        c.due("scale(2)", x.scale(2), true);
        c.due("none used", x.count(5), 2);
        x.weigh(1, 8);
        x.weigh(2, -1);
        c.due("all used", x.count(5), 0);
        c.due("scale(1)", x.scale(1), true);
        c.due("a place again", x.weigh(2, 8), 10);
        c.due("scale(5)", x.scale(5), true);
        c.due("scale(0)", x.scale(0), true);
        c.due("no place", x.count(5), 0);
    }

    private static void waits(Check c) {
        c.part("promise 25: n HOURS later (0 .. 100); NONE for another n");
        OilPress x = new OilPress();
        for (int n : Village.outside(0, 100)) {
            c.due("wait(" + n + ")", x.wait(n), -1);
            c.due("hour behind wait(" + n + ")", x.count(4), 0);
        }
        c.due("wait(0)", x.wait(0), 0);
        c.due("wait(1)", x.wait(1), 1);
        c.due("wait(100)", x.wait(100), 101);
        c.due("wait(99)", x.wait(99), 200);
    }

    private static void eachDayBegins(Check c) {
        c.part("promise 25: each DAY that begins is one");
        OilPress x = Village.withGroves();
        for (int day = 0; day < 10; day++) {
            x.lot(PLAIN, 0);
            x.wait(10);
        }
        c.due("one by one", x.count(10), 7);
        x.wait(29);
        c.due("the last came on day 9, on day 12", x.told(9, 0), PLAIN);
        c.due("that of day 8", x.told(8, 0), LATE);
        OilPress y = Village.withGroves();
        y.lot(PLAIN, 0);
        y.wait(100);
        c.due("ten days at once", y.told(0, 0), LATE);
        OilPress z = Village.withGroves();
        Village.till(z, 950);
        z.lot(PLAIN, 0);
        z.wait(100);
        c.due("day 95, on day 99", z.told(0, 0), LATE);
        OilPress last = Village.withGroves();
        Village.till(last, 960);
        last.lot(PLAIN, 0);
        last.wait(100);
        last.wait(100);
        c.due("day 96, on day 99", last.told(0, 0), PLAIN);
    }

    private static void freshNumbers(Check c) {
        c.part("promise 26: FRESH is n (0 .. 10); false for another n");
        for (int n : Village.outside(0, 10)) {
            OilPress x = Village.withGroves();
            x.lot(PLAIN, 0);
            c.due("fresh(" + n + ")", x.fresh(n), false);
            Village.till(x, 39);
            c.due("three days, as it was", x.told(0, 0), PLAIN);
            x.wait(1);
            c.due("four days, as it was", x.told(0, 0), LATE);
        }
        OilPress x = new OilPress();
        for (int n = 0; n <= 10; n++) {
            c.due("fresh(" + n + ")", x.fresh(n), true);
        }
    }

    private static void freshFromNowOn(Check c) {
        c.part("promise 26: from now on");
        OilPress x = Village.withGroves();
        x.lot(PLAIN, 0);
        Village.till(x, 29);
        x.fresh(0);
        c.due("told on day 2: not late by that", x.told(0, 0), PLAIN);
        x.fresh(2);
        x.wait(1);
        c.due("day 3 begins, FRESH is 2", x.told(0, 0), LATE);
        x.fresh(10);
        x.wait(10);
        c.due("late ones stay so", x.told(0, 0), LATE);
        int other = x.lot(PLAIN, 0);
        Village.till(x, 149);
        c.due("ten days", x.told(other, 0), PLAIN);
        Village.till(x, 150);
        c.due("eleven days", x.told(other, 0), LATE);
    }

    private static void countsOf(Check c) {
        c.part("promise 32: NONE for others");
        OilPress x = Village.lotOfEachState(PLAIN);
        x.fetch(6);
        x.draw(0, 1);
        for (int what : Village.outside(0, 10)) {
            c.due("count(" + what + ")", x.count(what), -1);
        }
        Due.counts(c, x, "counted", 3, 7, 1, 0, 5, 1, 20, 9, 1, 0, 0);
    }

    private static void countOfPlaces(Check c) {
        c.part("promise 32: places of today's SCALE that are not used (NONE without one)");
        OilPress x = Village.withGroves();
        x.lot(PLAIN, 0);
        x.lot(PLAIN, 0);
        c.due("without one", x.count(5), -1);
        x.scale(2);
        c.due("none used", x.count(5), 2);
        x.weigh(0, -1);
        c.due("one used", x.count(5), 1);
        x.weigh(0, 8);
        c.due("all used", x.count(5), 0);
        x.weigh(1, 8);
        c.due("none left to use", x.count(5), 0);
        x.wait(10);
        c.due("the next day", x.count(5), -1);
    }

    private static void countOfLate(Check c) {
        c.part("promise 32: LOTS that became LATE");
        OilPress x = Village.withGroves();
        x.lot(LATE, 0);
        x.lot(DEBT, 0);
        x.lot(CLEAN, 0);
        Village.till(x, 39);
        c.due("one that came LATE didn't become so", x.count(10), 0);
        Village.till(x, 40);
        c.due("one became LATE", x.count(10), 1);
        Village.till(x, 100);
        c.due("once", x.count(10), 1);
    }
}
