/** Terms 4 and promises 29 and 30, bound by bound. */
final class EdgesOfPlansTest {
    private static final int PLAIN = Village.PLAIN;
    private static final int SMALL = Village.SMALL;
    private static final int CLEAN = Village.CLEAN;
    private static final int LATE = Village.LATE;
    private static final int DEBT = Village.DEBT;

    public static void main(String[] args) {
        Check c = new Check();
        lotsByKind(c);
        lotsByState(c);
        lotsByWish(c);
        atMostEight(c);
        eightThatAreWashed(c);
        beginsAtNow(c);
        hoursOfEach(c);
        eachAlone(c);
        washingInTheOrder(c);
        washingOfTheFirst(c);
        tooLateByTheHour(c);
        tooLateBehindWashing(c);
        tooLateByTheDay(c);
        tooLateFromTomorrowOn(c);
        tooLateNotIfLate(c);
        fewestTooLate(c);
        endsFirst(c);
        leastNumbers(c);
        hoursBehindTheLast(c);
        noPlanWasMade(c);
        plannedNumbers(c);
        latestPlanStays(c);
        planChangesNothing(c);
        c.end();
    }

    private static void lotsByKind(Check c) {
        c.part("terms 4: its LOTS are those in STATE 2 that are PLAIN, CLEAN or LATE");
        for (int kind = 0; kind < 5; kind++) {
            OilPress x = Village.withGroves();
            Village.sampled(x, kind, 0, 10, 100, 10);
            boolean is = kind != SMALL && kind != DEBT;
            c.due("kind " + kind, x.plan(0), is ? 1 : 0);
            c.due("its first lot", x.planned(0), is ? 0 : -1);
        }
        OilPress x = Village.withGroves();
        Village.sampled(x, SMALL, 0, 10, 100, 10);
        Village.till(x, 39);
        c.due("a small one", x.plan(0), 0);
        Village.till(x, 40);
        c.due("one that became late", x.plan(0), 1);
    }

    private static void lotsByState(Check c) {
        c.part("terms 4: those in STATE 2");
        OilPress x = Village.lotOfEachState(PLAIN);
        c.due("plan(0)", x.plan(0), 1);
        c.due("that in state 2", x.planned(0), 2);
        c.due("none else", x.planned(1), -1);
        x.take(3);
        c.due("plan(0)", x.plan(0), 2);
        c.due("that in state 2 again", x.planned(1), 3);
    }

    private static void lotsByWish(Check c) {
        c.part("terms 4: whatever their wish");
        OilPress x = Village.withGroves();
        Village.withOthers(x, PLAIN, 0, 10, 100, 10);
        Village.sampled(x, PLAIN, 0, 10, 100, 10);
        Village.withOthers(x, LATE, 0, 10, 100, 10);
        c.due("plan(0)", x.plan(0), 3);
        Due.plan(c, x, "each alone", 0, 3, 0, 1, 2);
    }

    private static void atMostEight(Check c) {
        c.part("promise 29: NONE if there would be more than 8");
        OilPress x = Village.withGroves();
        for (int lot = 0; lot < 9; lot++) {
            c.due("with " + lot, x.plan(0), lot);
            Village.sampled(x, PLAIN, 0, 10, 100, 10);
        }
        c.due("with 9", x.plan(0), -1);
        Due.plan(c, x, "the latest stays", 0, 8, 0, 1, 2, 3, 4, 5, 6, 7);
        Village.sampled(x, PLAIN, 0, 10, 100, 10);
        c.due("with 10", x.plan(1), -1);
        x.put(0, 1);
        x.put(9, 2);
        c.due("with 8 again", x.plan(0), 8);
        Due.plan(c, x, "without the first and the last", 0, 8, 1, 2, 3, 4, 5, 6, 7, 8);
    }

    private static void eightThatAreWashed(Check c) {
        c.part("terms 4: at most 8, with 2 HOURS of washing ahead of each");
        OilPress x = new OilPress();
        for (int lot = 0; lot < 8; lot++) {
            x.grove(0, lot);
            Village.sampled(x, CLEAN, lot, 10, 100, 10);
        }
        c.due("eight likes", x.plan(0), 8);
        Due.plan(c, x, "eight likes", 0, 24, 0, 1, 2, 3, 4, 5, 6, 7);
        x.wash(0);
        x.wait(2);
        c.due("eight likes, washed", x.plan(0), 8);
        Due.plan(c, x, "eight likes, washed", 0, 24, 0, 1, 2, 3, 4, 5, 6, 7);
        x.fresh(0);
        c.due("eight likes, one day", x.plan(0), 8);
        Due.plan(c, x, "eight likes, one day", 5, 24, 0, 1, 2, 3, 4, 5, 6, 7);
    }

    private static void beginsAtNow(Check c) {
        c.part("terms 4: begins at NOW, or when the MILL isn't BUSY any more, if that is later");
        for (int hours = 0; hours <= 4; hours++) {
            OilPress x = Village.withGroves();
            Village.sampled(x, PLAIN, 0, 10, 100, 10);
            x.wash(1);
            x.wait(hours);
            x.plan(1);
            c.due(hours + " hours behind a washing of 2", x.planned(-2), Math.max(2, hours) + 1);
            x.plan(0);
            c.due("another mill", x.planned(-2), hours + 1);
        }
        OilPress x = Village.withGroves();
        Village.till(x, 6);
        x.wash(2);
        c.due("none", x.plan(2), 0);
        Due.plan(c, x, "none", 0, 8);
        Village.till(x, 9);
        x.plan(2);
        Due.plan(c, x, "none, later", 0, 9);
    }

    private static void hoursOfEach(Check c) {
        c.part("terms 4: each takes its HOURS as told, a begun one as a whole one");
        int[] rates = {1, 99, 100, 101, 199, 200, 5000};
        int[] ends = {300, 5, 3, 3, 3, 2, 2};
        for (int i = 0; i < rates.length; i++) {
            OilPress x = Village.withGroves();
            x.mill(0, 20000, rates[i]);
            Village.sampled(x, LATE, 0, 10, 100, 10);
            Village.sampled(x, LATE, 0, 20, 100, 10);
            x.plan(0);
            c.due("100 and 200 by " + rates[i], x.planned(-2), ends[i]);
        }
    }

    private static void eachAlone(Check c) {
        c.part("terms 4: each alone");
        OilPress x = Village.withGroves();
        for (int lot = 0; lot < 3; lot++) {
            Village.withOthers(x, PLAIN, 0, 1, 100, 10);
        }
        x.plan(0);
        c.due("three of 10 by 500", x.planned(-2), 3);
    }

    private static void washingInTheOrder(Check c) {
        c.part("terms 4: but if the one ahead of it is CLEAN and its GROVE has the same LIKE");
        dueEnd(c, "one like", 2 + 1 + 1, CLEAN, 0, CLEAN, 0);
        dueEnd(c, "one like of two groves", 2 + 1 + 1, CLEAN, 0, CLEAN, 1);
        dueEnd(c, "two likes", 2 + 1 + 2 + 1, CLEAN, 0, CLEAN, 2);
        dueEnd(c, "a plain one of the like", 2 + 1 + 1, CLEAN, 0, PLAIN, 0);
        dueEnd(c, "a late one of the like", 2 + 1 + 1, CLEAN, 0, LATE, 0);
        dueEnd(c, "no clean one", 1 + 1, PLAIN, 0, LATE, 0);
        OilPress x = Village.withGroves();
        x.mill(0, 0, 100);
        x.fresh(0);
        x.wait(1);
        Village.sampled(x, PLAIN, 0, 60, 100, 10);
        Village.sampled(x, CLEAN, 0, 10, 100, 10);
        Village.sampled(x, CLEAN, 2, 10, 100, 10);
        x.plan(0);
        Due.plan(c, x, "a plain one of the like ahead of it", 0, 13, 1, 2, 0);
    }

    private static void dueEnd(Check c, String when, int end, int kind, int grove, int otherKind, int otherGrove) {
        OilPress x = Village.withGroves();
        Village.sampled(x, kind, grove, 10, 100, 10);
        Village.sampled(x, otherKind, otherGrove, 10, 100, 10);
        x.plan(0);
        c.due(when, x.planned(-2), end);
    }

    private static void washingOfTheFirst(Check c) {
        c.part("terms 4: or (of the first) if the MILL is WASHED, or its latest PRESSING's LIKE is that");
        for (int grove = 0; grove <= 2; grove += 2) {
            OilPress x = Village.withGroves();
            x.vat(2, true, 500);
            x.vat(2, false, 500);
            x.wash(0);
            x.wait(2);
            Village.shared(x, 0, 10, Village.sampled(x, CLEAN, 0, 10, 100, 10));
            x.pour(0, 0);
            int lot = Village.sampled(x, CLEAN, grove, 10, 100, 10);
            x.plan(0);
            Due.plan(c, x, "behind like 1", 0, 3 + (grove == 0 ? 1 : 3), lot);
            x.plan(1);
            Due.plan(c, x, "no pressing, not washed", 0, 3 + 3, lot);
            x.wash(0);
            x.wait(2);
            x.plan(0);
            Due.plan(c, x, "washed", 0, 5 + 1, lot);
            Village.shared(x, 0, 10, Village.sampled(x, PLAIN, 0, 10, 100, 10));
            x.pour(0, 1);
            x.plan(0);
            Due.plan(c, x, "behind a plain one", 0, 6 + 3, lot);
        }
        OilPress x = Village.withGroves();
        x.wash(0);
        x.wait(2);
        Village.sampled(x, PLAIN, 0, 10, 100, 10);
        Village.sampled(x, CLEAN, 0, 10, 100, 10);
        x.plan(0);
        Due.plan(c, x, "washed, but a plain one ahead", 0, 4, 1, 0);
    }

    private static void tooLateByTheHour(Check c) {
        c.part("terms 4: TOO LATE, if its HOURS begin at the first HOUR of the DAY, or later");
        for (int hour = 38; hour <= 39; hour++) {
            for (int busy = 0; busy <= 2; busy += 2) {
                OilPress x = Village.withGroves();
                int lot = Village.sampled(x, PLAIN, 0, 10, 100, 10);
                Village.till(x, hour);
                if (busy == 2) {
                    x.wash(0);
                }
                x.plan(0);
                int begins = hour + busy;
                Due.plan(c, x, "begins at " + begins, begins >= 40 ? 1 : 0, begins + 1, lot);
            }
        }
        for (int rate = 1; rate <= 3; rate++) {
            OilPress x = Village.withGroves();
            int lot = Village.sampled(x, PLAIN, 0, 10, 100, 10);
            x.mill(0, 0, rate);
            Village.till(x, 39);
            x.plan(0);
            Due.plan(c, x, "begun in time it may end later", 0, 39 + (99 + rate) / rate, lot);
        }
    }

    private static void tooLateBehindWashing(Check c) {
        c.part("terms 4: its HOURS (behind washing) begin");
        for (int hour = 37; hour <= 38; hour++) {
            OilPress x = Village.withGroves();
            int lot = Village.sampled(x, CLEAN, 0, 10, 100, 10);
            Village.till(x, hour);
            x.plan(0);
            Due.plan(c, x, "washing at " + hour, hour == 37 ? 0 : 1, hour + 3, lot);
        }
    }

    private static void tooLateByTheDay(Check c) {
        c.part("terms 4: the first DAY that is more than FRESH DAYS behind the one on which it came");
        for (int fresh = 0; fresh <= 10; fresh++) {
            for (int before = 1; before >= 0; before--) {
                OilPress x = Village.withGroves();
                x.fresh(fresh);
                Village.till(x, 9);
                Village.sampled(x, LATE, 0, 10, 100, 10);
                Village.sampled(x, PLAIN, 0, 10, 100, 10);
                Village.till(x, 10 * fresh + 9);
                x.wash(0);
                if (before == 1) {
                    x.fresh(Math.min(10, fresh + 1));
                }
                x.plan(0);
                int late = before == 1 && fresh < 10 ? 0 : 1;
                Due.plan(c, x, "FRESH " + fresh + " and " + before, late, 10 * fresh + 13, 0, 1);
            }
        }
    }

    private static void tooLateFromTomorrowOn(Check c) {
        c.part("terms 4: the first DAY behind this one");
        OilPress x = Village.withGroves();
        int lot = Village.sampled(x, PLAIN, 0, 10, 100, 10);
        Village.till(x, 27);
        x.fresh(0);
        x.wash(0);
        x.plan(0);
        Due.plan(c, x, "at 29, late from 30 on", 0, 30, lot);
        x.plan(1);
        Due.plan(c, x, "at 27, late from 30 on", 0, 28, lot);
        x.wait(2);
        x.wash(0);
        x.plan(0);
        Due.plan(c, x, "at 31, late from 30 on", 1, 32, lot);
        OilPress y = Village.withGroves();
        Village.till(y, 990);
        int last = Village.sampled(y, PLAIN, 0, 10, 100, 10);
        y.fresh(0);
        Village.till(y, 998);
        y.wash(0);
        y.plan(0);
        Due.plan(c, y, "at 1000, behind the last hour", 1, 1001, last);
        y.fresh(1);
        y.plan(0);
        Due.plan(c, y, "late from 1010 on", 0, 1001, last);
    }

    private static void tooLateNotIfLate(Check c) {
        c.part("terms 4: One is TOO LATE in it, if it isn't LATE");
        for (int kind = 0; kind < 4; kind++) {
            if (kind != SMALL) {
                OilPress x = Village.withGroves();
                x.wait(9);
                int lot = Village.sampled(x, kind, 0, 10, 100, 10);
                x.fresh(0);
                x.wash(0);
                x.plan(0);
                Due.plan(c, x, "kind " + kind + " at 11", kind == LATE ? 0 : 1, 12, lot);
            }
        }
    }

    private static void fewestTooLate(Check c) {
        c.part("terms 4: the ORDER with the fewest TOO LATE");
        OilPress x = Village.withGroves();
        x.fresh(0);
        x.mill(0, 0, 100);
        int[] kilos = {90, 40, 50, 20};
        for (int n : kilos) {
            Village.sampled(x, PLAIN, 0, n, 100, 10);
        }
        x.plan(0);
        Due.plan(c, x, "one begins at 10 or later", 1, 20, 1, 2, 0, 3);
        x.wait(3);
        x.plan(0);
        Due.plan(c, x, "one begins at 10 or later", 1, 23, 1, 3, 0, 2);
        x.wait(1);
        x.plan(0);
        Due.plan(c, x, "two begin at 10 or later", 2, 24, 1, 0, 2, 3);
    }

    private static void endsFirst(Check c) {
        c.part("terms 4: of these that which ends first");
        OilPress x = Village.withGroves();
        int[] groves = {0, 2, 1, 2, 0};
        for (int grove : groves) {
            Village.sampled(x, CLEAN, grove, 10, 100, 10);
        }
        x.plan(0);
        Due.plan(c, x, "two washings", 0, 9, 0, 2, 4, 1, 3);
        Village.sampled(x, PLAIN, 0, 10, 100, 10);
        x.plan(0);
        Due.plan(c, x, "a plain one behind them", 0, 10, 0, 2, 4, 1, 3, 5);
        OilPress y = Village.withGroves();
        y.mill(0, 0, 100);
        Village.sampled(y, PLAIN, 0, 80, 100, 10);
        Village.sampled(y, CLEAN, 0, 50, 100, 10);
        y.wait(31);
        Village.sampled(y, CLEAN, 1, 100, 100, 10);
        y.plan(0);
        Due.plan(c, y, "none too late, though it ends later", 0, 58, 1, 0, 2);
    }

    private static void leastNumbers(Check c) {
        c.part("terms 4: of these that whose LOTS have the least numbers, from the first on");
        OilPress x = Village.withGroves();
        x.mill(0, 0, 100);
        int[] kilos = {40, 30, 20, 10};
        for (int n : kilos) {
            Village.sampled(x, PLAIN, 0, n, 100, 10);
        }
        x.plan(0);
        Due.plan(c, x, "all like", 0, 10, 0, 1, 2, 3);
        x.fresh(0);
        x.wait(4);
        x.plan(0);
        Due.plan(c, x, "one too late, whatever the order", 1, 14, 0, 3, 1, 2);
        OilPress y = Village.withGroves();
        for (int lot = 0; lot < 4; lot++) {
            Village.sampled(y, CLEAN, 2 - lot % 2 * 2, 10, 100, 10);
        }
        y.plan(0);
        Due.plan(c, y, "two likes", 0, 8, 0, 2, 1, 3);
    }

    private static void hoursBehindTheLast(Check c) {
        c.part("terms 4: an ORDER may end behind HOUR 999");
        OilPress x = Village.withGroves();
        Village.till(x, 999);
        for (int lot = 0; lot < 8; lot++) {
            Village.sampled(x, LATE, 0, 10000, 100, 10);
        }
        x.mill(0, 0, 1);
        c.due("plan(0)", x.plan(0), 8);
        Due.plan(c, x, "the greatest there can be", 0, 800999, 0, 1, 2, 3, 4, 5, 6, 7);
        x.mill(1, 0, 1);
        x.put(0, 1);
        x.press(1);
        Village.sampled(x, PLAIN, 0, 10000, 100, 10);
        c.due("plan(1)", x.plan(1), 8);
        Due.plan(c, x, "behind a busy mill", 1, 100999 + 800000, 1, 2, 3, 4, 5, 6, 7, 8);
    }

    private static void noPlanWasMade(Check c) {
        c.part("promise 30: NONE if no PLAN was made");
        OilPress x = Village.withGroves();
        Village.sampled(x, PLAIN, 0, 10, 100, 10);
        for (int i = -3; i <= 8; i++) {
            c.due("planned(" + i + ")", x.planned(i), -1);
        }
        x.plan(3);
        c.due("refused, planned(-1)", x.planned(-1), -1);
        c.due("refused, planned(-2)", x.planned(-2), -1);
        x.plan(0);
        Due.plan(c, x, "made", 0, 1, 0);
    }

    private static void plannedNumbers(Check c) {
        c.part("promise 30: i from 0 on: its i-th LOT; NONE if there is none such");
        OilPress x = Village.withGroves();
        x.lot(PLAIN, 0);
        for (int lot = 1; lot <= 8; lot++) {
            Village.sampled(x, PLAIN, 0, 10, 100, 10);
        }
        x.plan(0);
        for (int i = 0; i < 8; i++) {
            c.due("planned(" + i + ")", x.planned(i), i + 1);
        }
        int[] none = {Integer.MIN_VALUE, -4, -3, 8, 9, Integer.MAX_VALUE};
        for (int i : none) {
            c.due("planned(" + i + ")", x.planned(i), -1);
        }
        x.put(8, 1);
        x.plan(0);
        c.due("the seventh", x.planned(6), 7);
        c.due("no eighth", x.planned(7), -1);
    }

    private static void latestPlanStays(Check c) {
        c.part("promise 29: NONE, and the latest PLAN stays, if there is no such MILL");
        OilPress x = Village.withGroves();
        Village.sampled(x, PLAIN, 0, 10, 100, 10);
        Village.sampled(x, PLAIN, 0, 10, 100, 10);
        x.plan(0);
        x.put(0, 0);
        x.wait(50);
        for (int mill : Village.outside(0, 2)) {
            c.due("plan(" + mill + ")", x.plan(mill), -1);
            Due.plan(c, x, "the latest", 0, 2, 0, 1);
        }
        c.due("plan(2)", x.plan(2), 1);
        Due.plan(c, x, "a new one", 0, 51, 1);
    }

    private static void planChangesNothing(Check c) {
        c.part("promise 29: a PLAN is made, nothing else");
        OilPress x = Village.withGroves();
        int lot = Village.sampled(x, CLEAN, 0, 10, 100, 10);
        x.plan(0);
        c.due("its state", x.told(lot, 3), 2);
        c.due("the mill's washing", x.at(0, 5), 0);
        c.due("the mill's hour", x.at(0, 2), 0);
        c.due("the hour", x.count(4), 0);
        c.due("not washed by it", x.put(lot, 0), -1);
    }
}
