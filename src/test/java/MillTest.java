/** Promises 9 to 16 and 27: mills, bins, pressings and what they gave. */
final class MillTest {
    private static final int PLAIN = Village.PLAIN;
    private static final int SMALL = Village.SMALL;
    private static final int CLEAN = Village.CLEAN;
    private static final int LATE = Village.LATE;
    private static final int DEBT = Village.DEBT;

    public static void main(String[] args) {
        Check c = new Check();
        mills(c);
        puts(c);
        agreeing(c);
        agreeingByDays(c);
        cleanToEmpty(c);
        takes(c);
        washes(c);
        pressBegins(c);
        pressAlone(c);
        pressTold(c);
        pressToldIsCut(c);
        gives(c);
        shares(c);
        sharesTied(c);
        keeps(c);
        at(c);
        c.end();
    }

    private static void mills(Check c) {
        c.part("promise 9");
        OilPress x = Village.withGroves();
        c.due("mill(-1, 0, 1)", x.mill(-1, 0, 1), false);
        c.due("mill(3, 0, 1)", x.mill(3, 0, 1), false);
        c.due("mill(0, -1, 1)", x.mill(0, -1, 1), false);
        c.due("mill(0, 20001, 1)", x.mill(0, 20001, 1), false);
        c.due("mill(0, 0, 0)", x.mill(0, 0, 0), false);
        c.due("mill(0, 0, 5001)", x.mill(0, 0, 5001), false);
        c.due("at(0, 0)", x.at(0, 0), 1000);
        c.due("at(0, 1)", x.at(0, 1), 500);
        c.due("mill(0, 0, 1)", x.mill(0, 0, 1), true);
        c.due("at(0, 0)", x.at(0, 0), 0);
        c.due("at(0, 1)", x.at(0, 1), 1);
        c.due("mill(2, 20000, 5000)", x.mill(2, 20000, 5000), true);
        c.due("at(2, 0)", x.at(2, 0), 20000);
        c.due("at(2, 1)", x.at(2, 1), 5000);
        c.due("at(1, 0)", x.at(1, 0), 1000);
        c.due("at(1, 1)", x.at(1, 1), 500);
        int lot = Village.sampled(x, PLAIN, 0, 10, 100, 10);
        x.put(lot, 2);
        c.due("lots in the bin", x.mill(2, 5, 5), false);
        c.due("at(2, 0)", x.at(2, 0), 20000);
        x.take(lot);
        c.due("its bin is empty", x.mill(2, 5, 5), true);
        x.wash(2);
        c.due("busy", x.mill(2, 6, 7), true);
        c.due("at(2, 0)", x.at(2, 0), 6);
        c.due("at(2, 2)", x.at(2, 2), 2);
    }

    private static void puts(Check c) {
        c.part("promise 10");
        OilPress x = Village.withGroves();
        int lot = x.lot(SMALL, 0);
        x.scale(1);
        c.due("in state 0", x.put(lot, 0), -1);
        x.weigh(lot, 8);
        c.due("in state 1", x.put(lot, 0), -1);
        x.sample(lot, 100, 10);
        c.due("put(-1, 0)", x.put(-1, 0), -1);
        c.due("put(1, 0)", x.put(1, 0), -1);
        c.due("put(0, -1)", x.put(lot, -1), -1);
        c.due("put(0, 3)", x.put(lot, 3), -1);
        c.due("told(0, 3)", x.told(lot, 3), 2);
        c.due("put(0, 1)", x.put(lot, 1), 1);
        c.due("told(0, 3)", x.told(lot, 3), 3);
        c.due("told(0, 9)", x.told(lot, 9), 1);
        c.due("in state 3", x.put(lot, 1), -1);
        c.due("in state 3", x.put(lot, 0), -1);
        for (int i = 2; i <= 12; i++) {
            c.due("lot " + i, x.put(Village.sampled(x, DEBT, 1, 1, 100, 10), 1), i);
        }
        int more = Village.sampled(x, SMALL, 0, 1, 100, 10);
        c.due("no room", x.put(more, 1), -1);
        c.due("at(1, 3)", x.at(1, 3), 12);
        x.take(3);
        c.due("room again", x.put(more, 1), 12);
        x.mill(2, 0, 5000);
        x.put(3, 2);
        x.press(2);
        c.due("pressing", x.put(Village.sampled(x, SMALL, 0, 1, 100, 10), 2), -1);
        x.wait(9);
        c.due("pressing, not busy", x.put(13, 2), -1);
    }

    /** Each pair of lots, one in the bin and the other to come; 1 behind a kind: its wish is with others. */
    private static void agreeing(Check c) {
        c.part("promise 10, agree");
        int[] kinds = {PLAIN, PLAIN, SMALL, CLEAN, LATE, LATE, DEBT};
        boolean[] wishes = {false, true, false, false, false, true, false};
        String[] agrees = {".......", ".xx...x", ".xx...x", "...x...", ".......", ".....x.", ".xx...x"};
        for (int a = 0; a < kinds.length; a++) {
            for (int b = 0; b < kinds.length; b++) {
                OilPress x = Village.withGroves();
                x.wash(0);
                int one = Village.sampled(x, kinds[a], 0, 10, 100, 10);
                int two = Village.sampled(x, kinds[b], 1, 10, 100, 10);
                x.wish(one, wishes[a]);
                x.wish(two, wishes[b]);
                c.due(a + " is the first", x.put(one, 0), 1);
                boolean may = agrees[a].charAt(b) == 'x';
                c.due(b + " comes to " + a, x.put(two, 0), may ? 2 : -1);
                c.due(b + " at " + a + " in state", x.told(two, 3), may ? 3 : 2);
            }
        }
        OilPress x = Village.withGroves();
        x.wash(0);
        x.put(Village.sampled(x, CLEAN, 0, 10, 100, 10), 0);
        c.due("clean ones of other likes", x.put(Village.sampled(x, CLEAN, 2, 10, 100, 10), 0), -1);
        c.due("clean ones of one like", x.put(Village.sampled(x, CLEAN, 1, 10, 100, 10), 0), 2);
    }

    private static void agreeingByDays(Check c) {
        OilPress x = Village.withGroves();
        x.fresh(10);
        x.wash(1);
        int first = Village.sampled(x, SMALL, 0, 10, 100, 10);
        int firstLate = Village.withOthers(x, LATE, 0, 10, 100, 10);
        int firstClean = Village.sampled(x, CLEAN, 0, 10, 100, 10);
        x.wait(15);
        int between = Village.withOthers(x, PLAIN, 0, 10, 100, 10);
        x.wait(15);
        int third = Village.withOthers(x, PLAIN, 0, 10, 100, 10);
        x.wait(10);
        int fourth = Village.sampled(x, DEBT, 0, 10, 100, 10);
        c.due("day 1", x.put(between, 0), 1);
        c.due("day 4, day 1", x.put(fourth, 0), 2);
        c.due("day 0, day 4", x.put(first, 0), -1);
        c.due("day 3", x.put(third, 0), 3);
        x.take(fourth);
        c.due("day 0, day 3", x.put(first, 0), 3);
        c.due("day 4, day 0", x.put(fourth, 0), -1);
        c.due("clean of day 0", x.put(firstClean, 1), 1);
        c.due("clean of day 4", x.put(Village.sampled(x, CLEAN, 1, 10, 100, 10), 1), 2);
        c.due("late of day 0", x.put(firstLate, 2), 1);
        c.due("late of day 4", x.put(Village.withOthers(x, LATE, 1, 10, 100, 10), 2), 2);
    }

    private static void cleanToEmpty(Check c) {
        OilPress x = Village.withGroves();
        x.vat(2, true, 5000);
        x.vat(2, false, 5000);
        int one = Village.sampled(x, CLEAN, 0, 10, 100, 10);
        int two = Village.sampled(x, CLEAN, 1, 10, 100, 10);
        int other = Village.sampled(x, CLEAN, 2, 10, 100, 10);
        int plain = Village.sampled(x, PLAIN, 2, 10, 100, 10);
        c.due("clean, not washed", x.put(one, 0), -1);
        x.wash(0);
        c.due("clean, washed and busy", x.put(one, 0), 1);
        x.take(one);
        c.due("plain, washed", x.put(plain, 0), 1);
        x.take(plain);
        c.due("clean, washed still", x.put(one, 0), 1);
        x.wait(2);
        c.due("press(0)", x.press(0), 1);
        x.wait(1);
        x.gave(0, 10);
        x.share(0);
        c.due("pour(0, 0)", x.pour(0, 0), 10);
        c.due("washed no more", x.at(0, 5), 0);
        c.due("clean of another like", x.put(other, 0), -1);
        c.due("clean of one like", x.put(two, 0), 1);
        x.take(two);
        c.due("another mill", x.put(two, 1), -1);
        Village.shared(x, 0, 10, plain);
        c.due("pour(0, 1)", x.pour(0, 1), 10);
        c.due("behind a plain one", x.put(two, 0), -1);
        x.wash(0);
        c.due("washed again, of another like", x.put(other, 0), 1);
    }

    private static void takes(Check c) {
        c.part("promise 11");
        OilPress x = Village.withGroves();
        x.fresh(0);
        for (int i = 0; i < 3; i++) {
            c.due("in no bin", x.take(Village.sampled(x, SMALL, 0, 40, 100, 10)), false);
            x.put(i, 0);
        }
        c.due("take(-1)", x.take(-1), false);
        c.due("take(3)", x.take(3), false);
        c.due("take(1)", x.take(1), true);
        c.due("take(1), again", x.take(1), false);
        c.due("told(1, 3)", x.told(1, 3), 2);
        c.due("told(1, 9)", x.told(1, 9), -1);
        c.due("told(2, 9)", x.told(2, 9), 0);
        c.due("at(0, 3)", x.at(0, 3), 2);
        x.wait(10);
        c.due("in the bin it stays small", x.told(0, 0), SMALL);
        c.due("out of it it is late", x.told(1, 0), LATE);
        c.due("take(0)", x.take(0), true);
        c.due("not late yet", x.told(0, 0), SMALL);
        x.wait(10);
        c.due("late at the next day", x.told(0, 0), LATE);
        x.mill(1, 0, 5000);
        x.take(2);
        x.put(2, 1);
        x.press(1);
        c.due("pressing", x.take(2), false);
        x.wait(1);
        c.due("pressed", x.take(2), false);
        x.gave(1, 10);
        x.share(1);
        c.due("shared", x.take(2), false);
        x.vat(2, false, 100);
        x.pour(1, 0);
        c.due("poured", x.take(2), false);
        c.due("told(2, 3)", x.told(2, 3), 6);
    }

    private static void washes(Check c) {
        c.part("promise 12");
        OilPress x = Village.withGroves();
        c.due("wash(-1)", x.wash(-1), false);
        c.due("wash(3)", x.wash(3), false);
        x.wait(5);
        c.due("wash(0)", x.wash(0), true);
        c.due("at(0, 2)", x.at(0, 2), 7);
        c.due("at(0, 5)", x.at(0, 5), 1);
        c.due("at(0, 4)", x.at(0, 4), 0);
        c.due("at(1, 5)", x.at(1, 5), 0);
        x.wait(1);
        c.due("busy", x.wash(0), false);
        c.due("at(0, 2)", x.at(0, 2), 7);
        x.wait(1);
        c.due("busy no more", x.wash(0), true);
        c.due("at(0, 2)", x.at(0, 2), 9);
        x.put(Village.sampled(x, PLAIN, 0, 10, 100, 10), 1);
        c.due("a lot in the bin", x.wash(1), false);
        c.due("at(1, 5)", x.at(1, 5), 0);
        c.due("at(1, 2)", x.at(1, 2), 0);
    }

    private static void pressBegins(Check c) {
        c.part("promise 13");
        OilPress x = Village.withGroves();
        c.due("press(-1)", x.press(-1), -1);
        c.due("press(3)", x.press(3), -1);
        c.due("no lots", x.press(0), -1);
        x.mill(0, 1000, 300);
        x.put(Village.sampled(x, SMALL, 0, 50, 100, 10), 0);
        x.put(Village.sampled(x, DEBT, 0, 49, 100, 10), 0);
        c.due("not the least", x.press(0), -1);
        c.due("told(0, 3)", x.told(0, 3), 3);
        x.put(Village.sampled(x, SMALL, 0, 1, 100, 10), 0);
        x.wait(3);
        c.due("the least", x.press(0), 4);
        c.due("at(0, 2)", x.at(0, 2), 7);
        for (int lot = 0; lot < 3; lot++) {
            c.due("told(" + lot + ", 3)", x.told(lot, 3), 4);
        }
        x.wait(9);
        c.due("pressing", x.press(0), -1);
        x.wash(1);
        x.put(Village.sampled(x, PLAIN, 0, 1, 100, 10), 1);
        c.due("busy", x.press(1), -1);
        x.wait(1);
        c.due("busy still", x.press(1), -1);
        c.due("at(1, 4)", x.at(1, 4), 0);
        x.wait(1);
        c.due("busy no more", x.press(1), 1);
        c.due("at(1, 4)", x.at(1, 4), 1);
        int[] kilos = {499, 500, 501, 1};
        int[] hours = {10, 10, 11, 1};
        for (int i = 0; i < kilos.length; i++) {
            OilPress y = Village.withGroves();
            y.put(Village.sampled(y, PLAIN, 0, kilos[i], 100, 10), 2);
            c.due("hours of " + kilos[i] + " kilos", y.press(2), hours[i]);
        }
    }

    private static void pressAlone(Check c) {
        for (int kind = 0; kind < 5; kind++) {
            OilPress x = Village.withGroves();
            x.wash(0);
            x.wait(2);
            int lot = Village.withOthers(x, kind, 0, 1, 100, 10);
            c.due("put of kind " + kind, x.put(lot, 0), 1);
            boolean may = kind != SMALL && kind != DEBT;
            c.due("one alone of kind " + kind, x.press(0), may ? 1 : -1);
            c.due("at(0, 4)", x.at(0, 4), may ? 1 : 0);
        }
        for (int kind = 0; kind < 5; kind++) {
            OilPress x = Village.withGroves();
            x.wash(0);
            x.wait(2);
            x.put(Village.withOthers(x, kind, 0, 50, 100, 10), 0);
            x.put(Village.withOthers(x, kind, 1, 49, 100, 10), 0);
            c.due("two of kind " + kind, x.press(0), -1);
        }
        OilPress x = Village.withGroves();
        x.mill(0, 0, 500);
        x.put(Village.sampled(x, SMALL, 0, 1, 100, 10), 0);
        c.due("a small one, no least", x.press(0), 1);
    }

    private static void pressTold(Check c) {
        OilPress x = Village.withGroves();
        x.wash(0);
        x.wait(2);
        x.put(Village.sampled(x, CLEAN, 2, 100, 123, 57), 0);
        x.put(Village.sampled(x, CLEAN, 2, 33, 99, 10), 0);
        c.due("press(0)", x.press(0), 3);
        Due.at(c, x, 0, "pressing", 1000, 500, 5, 2, 1, 0, 2, 155, -1, 45, -1);
        OilPress y = Village.withGroves();
        y.mill(0, 0, 1);
        for (int i = 0; i < 12; i++) {
            y.put(Village.sampled(y, SMALL, 0, 10000, 400, 999), 0);
        }
        c.due("the greatest", y.press(0), 1200000);
        c.due("at(0, 7)", y.at(0, 7), 480000);
        c.due("at(0, 9)", y.at(0, 9), 999);
        c.due("at(0, 6)", y.at(0, 6), -1);
    }

    /** What would be a whole one but for the last part is cut. */
    private static void pressToldIsCut(Check c) {
        OilPress x = Village.withGroves();
        x.scale(2);
        int[] eighths = {22, 1};
        int[] thousandths = {36, 27};
        int[] sours = {99, 100};
        for (int i = 0; i < 2; i++) {
            x.lot(SMALL, 0);
            x.weigh(i, eighths[i]);
            x.sample(i, thousandths[i], sours[i]);
        }
        Village.pressed(x, 0, 0, 1);
        c.due("27 times 36 and 1 times 27 are 999", x.at(0, 7), 0);
        c.due("27 times 99 and 1 times 100, of 28", x.at(0, 9), 99);
        OilPress y = Village.withGroves();
        Village.pressed(y, 0, Village.sampled(y, SMALL, 0, 1, 100, 9), Village.sampled(y, SMALL, 0, 1, 100, 10));
        c.due("1000 and 1000, by 1000", y.at(0, 7), 2);
        c.due("half of 19", y.at(0, 9), 9);
        OilPress z = Village.withGroves();
        z.scale(2);
        for (int i = 0; i < 2; i++) {
            z.lot(SMALL, 0);
            z.weigh(i, 1);
            z.sample(i, 1, i);
        }
        Village.pressed(z, 0, 0, 1);
        c.due("two tenths", z.at(0, 7), 0);
        c.due("half of 1", z.at(0, 9), 0);
        z.gave(0, 1);
        c.due("share(0)", z.share(0), 0);
        c.due("told(0, 7)", z.told(0, 7), 1);
        c.due("told(1, 7)", z.told(1, 7), 0);
        OilPress one = Village.withGroves();
        one.lot(PLAIN, 0);
        one.scale(1);
        one.weigh(0, 1);
        one.sample(0, 1, 77);
        Village.pressed(one, 2, 0);
        c.due("one tenth", one.at(2, 9), 77);
        one.gave(2, 1);
        c.due("share(2)", one.share(2), 0);
        c.due("told(0, 7)", one.told(0, 7), 1);
    }

    private static void gives(Check c) {
        c.part("promise 14");
        OilPress x = Village.withGroves();
        c.due("no pressing", x.gave(0, 0), false);
        x.put(Village.sampled(x, PLAIN, 0, 100, 100, 10), 0);
        c.due("in the bin only", x.gave(0, 10), false);
        x.press(0);
        c.due("busy", x.gave(0, 10), false);
        x.wait(1);
        c.due("busy still", x.gave(0, 10), false);
        x.wait(1);
        c.due("gave(-1, 10)", x.gave(-1, 10), false);
        c.due("gave(3, 10)", x.gave(3, 10), false);
        c.due("gave(0, -1)", x.gave(0, -1), false);
        c.due("gave(0, 1001)", x.gave(0, 1001), false);
        c.due("at(0, 8)", x.at(0, 8), -1);
        c.due("count(6)", x.count(6), 0);
        c.due("gave(0, 1000)", x.gave(0, 1000), true);
        c.due("at(0, 8)", x.at(0, 8), 1000);
        c.due("count(6)", x.count(6), 1000);
        c.due("balance()", x.balance(), 0);
        c.due("told already", x.gave(0, 10), false);
        x.share(0);
        c.due("shared already", x.gave(0, 10), false);
        c.due("count(6)", x.count(6), 1000);
        x.put(Village.sampled(x, PLAIN, 0, 100, 100, 10), 1);
        x.press(1);
        x.wait(2);
        c.due("gave(1, 0)", x.gave(1, 0), true);
        c.due("at(1, 8)", x.at(1, 8), 0);
        c.due("told already", x.gave(1, 0), false);
        c.due("told(0, 3)", x.told(1, 3), 4);
    }

    private static void shares(Check c) {
        c.part("promise 15");
        OilPress x = Village.withGroves();
        c.due("share(-1)", x.share(-1), -1);
        c.due("share(3)", x.share(3), -1);
        c.due("no pressing", x.share(0), -1);
        Village.pressed(x, 0, Village.sampled(x, SMALL, 0, 100, 200, 10),
                Village.sampled(x, SMALL, 0, 50, 100, 10), Village.sampled(x, DEBT, 0, 10, 7, 10));
        c.due("not told", x.share(0), -1);
        c.due("told(0, 3)", x.told(0, 3), 4);
        x.gave(0, 259);
        c.due("share(0)", x.share(0), 25);
        c.due("at(0, 10)", x.at(0, 10), 25);
        int[] want = {187, 47, 0};
        for (int lot = 0; lot < 3; lot++) {
            c.due("told(" + lot + ", 7)", x.told(lot, 7), want[lot]);
            c.due("told(" + lot + ", 8)", x.told(lot, 8), 0);
            c.due("told(" + lot + ", 3)", x.told(lot, 3), 5);
        }
        c.due("shared already", x.share(0), -1);
        c.due("at(0, 4)", x.at(0, 4), 1);
        OilPress y = Village.withGroves();
        Village.pressed(y, 1, Village.sampled(y, SMALL, 0, 100, 200, 10));
        y.gave(1, 0);
        c.due("nothing given", y.share(1), 0);
        c.due("told(0, 7)", y.told(0, 7), 0);
        c.due("told(0, 3)", y.told(0, 3), 5);
        OilPress z = Village.withGroves();
        Village.pressed(z, 1, Village.sampled(z, SMALL, 0, 10000, 400, 10),
                Village.sampled(z, SMALL, 0, 10000, 399, 10));
        z.gave(1, 200000);
        c.due("much given", z.share(1), 20000);
        c.due("told(0, 7)", z.told(0, 7), 90113);
        c.due("told(1, 7)", z.told(1, 7), 89887);
    }

    private static void sharesTied(Check c) {
        OilPress x = Village.withGroves();
        for (int i = 0; i < 5; i++) {
            Village.sampled(x, SMALL, 0, 10, 100, 10);
        }
        x.keep(0);
        Village.pressed(x, 0, 4, 2, 0, 3, 1);
        x.gave(0, 13);
        x.share(0);
        int[] want = {3, 3, 3, 2, 2};
        for (int lot = 0; lot < 5; lot++) {
            c.due("like ones, told(" + lot + ", 7)", x.told(lot, 7), want[lot]);
        }
        mostCutOff(c, new int[] {10, 20, 30}, 10, 2, 3, 5);
        mostCutOff(c, new int[] {30, 20, 10}, 10, 5, 3, 2);
        mostCutOff(c, new int[] {20, 10, 30}, 10, 3, 2, 5);
        mostCutOff(c, new int[] {10, 30, 30}, 10, 2, 4, 4);
        mostCutOff(c, new int[] {30, 10, 30}, 9, 4, 1, 4);
        mostCutOff(c, new int[] {10, 20, 20, 10}, 5, 1, 2, 1, 1);
    }

    private static void mostCutOff(Check c, int[] kilos, int tenths, int... shares) {
        OilPress x = Village.withGroves();
        int[] lots = new int[kilos.length];
        for (int i = 0; i < kilos.length; i++) {
            lots[i] = Village.sampled(x, SMALL, 0, kilos[i], 100, 10);
        }
        x.keep(0);
        Village.pressed(x, 0, lots);
        x.gave(0, tenths);
        x.share(0);
        for (int lot : lots) {
            c.due(tenths + " of " + kilos.length + ", told(" + lot + ", 7)", x.told(lot, 7), shares[lot]);
        }
    }

    private static void keeps(Check c) {
        c.part("promise 16");
        OilPress x = Village.withGroves();
        c.due("keep(-1)", x.keep(-1), false);
        c.due("keep(51)", x.keep(51), false);
        Village.pressed(x, 0, Village.sampled(x, PLAIN, 0, 100, 100, 10));
        x.gave(0, 199);
        c.due("10 of 100", x.share(0), 19);
        c.due("keep(50)", x.keep(50), true);
        Village.pressed(x, 1, Village.sampled(x, PLAIN, 0, 100, 100, 10));
        x.gave(1, 199);
        c.due("keep(-1)", x.keep(-1), false);
        c.due("keep(51)", x.keep(51), false);
        c.due("50 of 100", x.share(1), 99);
        c.due("told(1, 7)", x.told(1, 7), 100);
        c.due("as it was shared", x.at(0, 10), 19);
        Village.pressed(x, 2, Village.sampled(x, PLAIN, 0, 100, 100, 10));
        x.gave(2, 199);
        c.due("keep(0)", x.keep(0), true);
        c.due("0 of 100, told last", x.share(2), 0);
        c.due("told(2, 7)", x.told(2, 7), 199);
    }

    private static void at(Check c) {
        c.part("promise 27");
        OilPress x = Village.withGroves();
        x.wash(2);
        x.wait(2);
        int lot = Village.sampled(x, CLEAN, 0, 100, 150, 33);
        x.put(lot, 2);
        Due.at(c, x, 2, "in the bin", 1000, 500, 2, 1, 0, 1, -1, 0, -1, 0, -1);
        x.press(2);
        Due.at(c, x, 2, "pressing", 1000, 500, 4, 1, 1, 0, 1, 150, -1, 33, -1);
        x.wait(2);
        Due.at(c, x, 2, "not busy", 1000, 500, 4, 1, 1, 0, 1, 150, -1, 33, -1);
        x.gave(2, 140);
        Due.at(c, x, 2, "told", 1000, 500, 4, 1, 1, 0, 1, 150, 140, 33, -1);
        x.share(2);
        Due.at(c, x, 2, "shared", 1000, 500, 4, 1, 1, 0, 1, 150, 140, 33, 14);
        x.vat(0, true, 200);
        x.pour(2, 0);
        Due.at(c, x, 2, "poured", 1000, 500, 4, 0, 0, 0, 1, 0, -1, 0, -1);
        x.wash(2);
        Due.at(c, x, 2, "washed", 1000, 500, 6, 0, 0, 1, 1, 0, -1, 0, -1);
        c.due("at(2, -1)", x.at(2, -1), -1);
        c.due("at(2, 11)", x.at(2, 11), -1);
        c.due("at(-1, 0)", x.at(-1, 0), -1);
        c.due("at(3, 0)", x.at(3, 0), -1);
    }
}
