/** Terms 2 (mills, bins, pressings) and promises 9 to 14 and 27, bound by bound. */
final class EdgesOfMillsTest {
    private static final int PLAIN = Village.PLAIN;
    private static final int SMALL = Village.SMALL;
    private static final int CLEAN = Village.CLEAN;
    private static final int LATE = Village.LATE;
    private static final int DEBT = Village.DEBT;

    public static void main(String[] args) {
        Check c = new Check();
        atFirst(c);
        noSuchMill(c);
        leasts(c);
        rates(c);
        emptyBinForNumbers(c);
        twelveLots(c);
        cleanAgree(c);
        lateAgree(c);
        commonAgree(c);
        threeDaysApart(c);
        daysOfCleanAndLate(c);
        agreesWithAll(c);
        noPutWhilePressing(c);
        cleanToNone(c);
        latestLike(c);
        putOfEachState(c);
        takeOfEachState(c);
        takeOfOneThatAgreed(c);
        washOfEmptyBin(c);
        washWhenNotBusy(c);
        twoHoursOfWashing(c);
        pressWhenNotBusy(c);
        pressWhenNotPressing(c);
        pressOfSome(c);
        pressOfTheLeast(c);
        pressOfOneAlone(c);
        begunHours(c);
        busySoLong(c);
        pressingUntilPoured(c);
        washedNoMore(c);
        likeOfThePressing(c);
        promisesAreCut(c);
        sournessIsCut(c);
        gaveWhenNotBusy(c);
        gaveOnce(c);
        gaveNotAbove(c);
        atWhat(c);
        withoutAPressing(c);
        c.end();
    }

    private static void atFirst(Check c) {
        c.part("terms 2: LEAST (1000 at first), RATE (500), BUSY (0), not WASHED, LIKE (none at first)");
        OilPress x = new OilPress();
        for (int mill = 0; mill < 3; mill++) {
            Due.at(c, x, mill, "at first", 1000, 500, 0, 0, 0, 0, -1, 0, -1, 0, -1);
        }
    }

    private static void noSuchMill(Check c) {
        c.part("terms 2: MILLS 0, 1, 2; there is no such MILL");
        OilPress x = Village.lotOfEachState(PLAIN);
        for (int mill : Village.outside(0, 2)) {
            c.due("mill(" + mill + ", 0, 1)", x.mill(mill, 0, 1), false);
            c.due("put(2, " + mill + ")", x.put(2, mill), -1);
            c.due("wash(" + mill + ")", x.wash(mill), false);
            c.due("press(" + mill + ")", x.press(mill), -1);
            c.due("gave(" + mill + ", 0)", x.gave(mill, 0), false);
            c.due("share(" + mill + ")", x.share(mill), -1);
            c.due("pour(" + mill + ", 0)", x.pour(mill, 0), -1);
            c.due("plan(" + mill + ")", x.plan(mill), -1);
            for (int what = -1; what <= 11; what++) {
                c.due("at(" + mill + ", " + what + ")", x.at(mill, what), -1);
            }
        }
        OilPress y = new OilPress();
        for (int mill = 0; mill < 3; mill++) {
            c.due("mill(" + mill + ", 0, 1)", y.mill(mill, 0, 1), true);
            c.due("wash(" + mill + ")", y.wash(mill), true);
            c.due("plan(" + mill + ")", y.plan(mill), 0);
        }
    }

    private static void leasts(Check c) {
        c.part("promise 9: LEAST (0 .. 20000)");
        OilPress x = new OilPress();
        for (int least : Village.outside(0, 20000)) {
            c.due("least " + least, x.mill(1, least, 7), false);
            c.due("at(1, 0)", x.at(1, 0), 1000);
            c.due("at(1, 1)", x.at(1, 1), 500);
        }
        for (int least = 0; least <= 20000; least += 20000) {
            c.due("least " + least, x.mill(1, least, 7), true);
            c.due("at(1, 0)", x.at(1, 0), least);
            c.due("at(1, 1)", x.at(1, 1), 7);
        }
    }

    private static void rates(Check c) {
        c.part("promise 9: RATE (1 .. 5000)");
        OilPress x = new OilPress();
        for (int rate : Village.outside(1, 5000)) {
            c.due("rate " + rate, x.mill(2, 7, rate), false);
            c.due("at(2, 0)", x.at(2, 0), 1000);
            c.due("at(2, 1)", x.at(2, 1), 500);
        }
        for (int rate = 1; rate <= 5000; rate += 4999) {
            c.due("rate " + rate, x.mill(2, 7, rate), true);
            c.due("at(2, 0)", x.at(2, 0), 7);
            c.due("at(2, 1)", x.at(2, 1), rate);
        }
    }

    private static void emptyBinForNumbers(Check c) {
        c.part("promise 9: A MILL with an empty BIN");
        OilPress x = Village.withGroves();
        int lot = Village.sampled(x, PLAIN, 0, 100, 100, 10);
        int vat = x.vat(2, false, 500);
        c.due("empty", x.mill(0, 10, 1000), true);
        x.put(lot, 0);
        c.due("one in it", x.mill(0, 20, 20), false);
        x.take(lot);
        c.due("empty again", x.mill(0, 30, 1000), true);
        x.put(lot, 0);
        x.wait(x.press(0));
        c.due("pressed", x.mill(0, 20, 20), false);
        x.gave(0, 100);
        x.share(0);
        c.due("shared", x.mill(0, 20, 20), false);
        c.due("as it was", x.at(0, 0), 30);
        c.due("as it was", x.at(0, 1), 1000);
        x.pour(0, vat);
        c.due("poured", x.mill(0, 20, 20), true);
        x.wash(0);
        c.due("busy, but empty", x.mill(0, 40, 40), true);
    }

    private static void twelveLots(Check c) {
        c.part("terms 2: a BIN of at most 12 LOTS");
        OilPress x = Village.withGroves();
        for (int lot = 0; lot < 13; lot++) {
            Village.sampled(x, SMALL, 0, 10, 100, 10);
        }
        for (int lot = 0; lot < 12; lot++) {
            c.due("put(" + lot + ", 1)", x.put(lot, 1), lot + 1);
        }
        c.due("no room", x.put(12, 1), -1);
        c.due("it stays out", x.told(12, 3), 2);
        c.due("LOTS in its BIN", x.at(1, 3), 12);
        c.due("another mill has room", x.put(12, 2), 1);
        x.take(12);
        x.take(0);
        c.due("room for one", x.put(12, 1), 12);
        c.due("no room again", x.put(0, 1), -1);
    }

    private static int putBeside(int firstKind, int firstGrove, boolean firstWish, int kind, int grove, boolean wish) {
        OilPress x = Village.withGroves();
        x.wash(0);
        int first = Village.sampled(x, firstKind, firstGrove, 10, 100, 10);
        int other = Village.sampled(x, kind, grove, 10, 100, 10);
        x.wish(first, firstWish);
        x.wish(other, wish);
        x.put(first, 0);
        return x.put(other, 0);
    }

    private static void cleanAgree(Check c) {
        c.part("terms 2: both are CLEAN and their GROVES have one LIKE");
        c.due("one grove", putBeside(CLEAN, 0, false, CLEAN, 0, false), 2);
        c.due("two groves of one like", putBeside(CLEAN, 0, false, CLEAN, 1, false), 2);
        c.due("of two likes", putBeside(CLEAN, 0, false, CLEAN, 2, false), -1);
        for (int kind = 0; kind < 5; kind++) {
            if (kind != CLEAN) {
                c.due("kind " + kind + " to a clean one", putBeside(CLEAN, 0, true, kind, 0, true), -1);
                c.due("a clean one to kind " + kind, putBeside(kind, 0, true, CLEAN, 0, true), -1);
            }
        }
    }

    private static void lateAgree(Check c) {
        c.part("terms 2: both are LATE, each pressed WITH others by its wish");
        c.due("both wish", putBeside(LATE, 0, true, LATE, 2, true), 2);
        c.due("the first doesn't", putBeside(LATE, 0, false, LATE, 2, true), -1);
        c.due("the second doesn't", putBeside(LATE, 0, true, LATE, 2, false), -1);
        c.due("none does", putBeside(LATE, 0, false, LATE, 2, false), -1);
        for (int kind = 0; kind < 5; kind++) {
            if (kind != LATE) {
                c.due("kind " + kind + " to a late one", putBeside(LATE, 0, true, kind, 0, true), -1);
                c.due("a late one to kind " + kind, putBeside(kind, 0, true, LATE, 0, true), -1);
            }
        }
    }

    private static void commonAgree(Check c) {
        c.part("terms 2: each is SMALL, DEBT, or PLAIN by its wish");
        int[] kinds = {PLAIN, SMALL, DEBT};
        for (int first : kinds) {
            for (int other : kinds) {
                String who = first + " and " + other;
                c.due(who, putBeside(first, 0, true, other, 2, true), 2);
                c.due(who + ", the first doesn't wish", putBeside(first, 0, false, other, 2, true),
                        first == PLAIN ? -1 : 2);
                c.due(who + ", the second doesn't wish", putBeside(first, 0, true, other, 2, false),
                        other == PLAIN ? -1 : 2);
            }
        }
    }

    private static void threeDaysApart(Check c) {
        c.part("terms 2: the DAYS on which they came are at most 3 apart");
        int[] kinds = {PLAIN, SMALL, DEBT};
        for (int kind : kinds) {
            for (int apart = 0; apart <= 5; apart++) {
                OilPress x = Village.withGroves();
                x.fresh(10);
                x.wait(9);
                int older = Village.withOthers(x, kind, 0, 10, 100, 10);
                Village.till(x, 10 * apart);
                int newer = Village.withOthers(x, DEBT, 0, 10, 100, 10);
                int want = apart <= 3 ? 2 : -1;
                x.put(older, 0);
                c.due("to one " + apart + " days older", x.put(newer, 0), want);
                x.take(newer);
                x.put(newer, 1);
                x.take(older);
                c.due("to one " + apart + " days newer", x.put(older, 1), want);
            }
        }
    }

    private static void daysOfCleanAndLate(Check c) {
        c.part("terms 2: the DAYS of CLEAN and LATE ones may be any");
        OilPress x = Village.withGroves();
        x.fresh(10);
        x.wash(0);
        x.put(Village.sampled(x, CLEAN, 0, 10, 100, 10), 0);
        x.put(Village.withOthers(x, LATE, 0, 10, 100, 10), 1);
        x.wait(90);
        c.due("clean, nine days apart", x.put(Village.sampled(x, CLEAN, 0, 10, 100, 10), 0), 2);
        c.due("late, nine days apart", x.put(Village.withOthers(x, LATE, 0, 10, 100, 10), 1), 2);
    }

    private static void agreesWithAll(Check c) {
        c.part("terms 2: it AGREES with all that are in it");
        OilPress x = Village.withGroves();
        x.fresh(10);
        int[] days = {0, 2, 3, 4, 5};
        for (int day : days) {
            Village.till(x, 10 * day);
            Village.sampled(x, SMALL, 0, 10, 100, 10);
        }
        x.put(0, 0);
        x.put(2, 0);
        c.due("day 4 to days 0 and 3", x.put(3, 0), -1);
        x.take(0);
        c.due("day 4 to day 3", x.put(3, 0), 2);
        c.due("day 0 to days 3 and 4", x.put(0, 0), -1);
        c.due("day 2 to days 3 and 4", x.put(1, 0), 3);
        c.due("day 5 to days 3, 4 and 2", x.put(4, 0), 4);
        c.due("day 0 to days 3, 4, 2 and 5", x.put(0, 0), -1);
    }

    private static void noPutWhilePressing(Check c) {
        c.part("terms 2: A LOT may come to a BIN, if the MILL isn't PRESSING");
        OilPress x = Village.withGroves();
        x.vat(2, false, 500);
        int other = Village.sampled(x, SMALL, 0, 10, 100, 10);
        x.put(Village.sampled(x, PLAIN, 0, 100, 100, 10), 0);
        x.press(0);
        c.due("busy", x.put(other, 0), -1);
        x.wait(2);
        c.due("pressed", x.put(other, 0), -1);
        x.gave(0, 10);
        c.due("told", x.put(other, 0), -1);
        x.share(0);
        c.due("shared", x.put(other, 0), -1);
        x.pour(0, 0);
        c.due("poured", x.put(other, 0), 1);
        x.take(other);
        x.wash(0);
        c.due("washing", x.put(other, 0), 1);
    }

    private static void cleanToNone(Check c) {
        c.part("terms 2: a CLEAN one to a BIN with none in it: WASHED, or its latest PRESSING's LIKE");
        OilPress x = Village.withGroves();
        x.vat(2, true, 500);
        int first = Village.sampled(x, CLEAN, 0, 100, 100, 10);
        int same = Village.sampled(x, CLEAN, 1, 100, 100, 10);
        int other = Village.sampled(x, CLEAN, 2, 100, 100, 10);
        c.due("not washed, no like", x.put(first, 0), -1);
        x.wash(0);
        c.due("washed, no like", x.put(first, 0), 1);
        x.wait(2);
        Village.pressed(x, 0, first);
        x.gave(0, 10);
        x.share(0);
        x.pour(0, 0);
        c.due("not washed, another like", x.put(other, 0), -1);
        c.due("not washed, the like", x.put(same, 0), 1);
        x.take(same);
        x.wash(0);
        c.due("washed, another like", x.put(other, 0), 1);
        x.take(other);
        c.due("washed, the like", x.put(same, 0), 1);
        c.due("of another like to one in it", x.put(other, 0), -1);
    }

    private static void latestLike(Check c) {
        c.part("terms 2: the LIKE of their latest PRESSING, if that was of CLEAN LOTS");
        OilPress x = Village.withGroves();
        x.vat(2, true, 500);
        x.vat(2, false, 500);
        x.wash(0);
        x.wait(2);
        Village.shared(x, 0, 10, Village.sampled(x, CLEAN, 0, 100, 100, 10));
        x.pour(0, 0);
        c.due("of clean ones", x.at(0, 6), 1);
        x.wash(0);
        c.due("washing takes no like", x.at(0, 6), 1);
        x.wait(2);
        Village.shared(x, 0, 10, Village.sampled(x, PLAIN, 0, 100, 100, 10));
        x.pour(0, 1);
        c.due("of a plain one", x.at(0, 6), -1);
        int clean = Village.sampled(x, CLEAN, 0, 100, 100, 10);
        c.due("the like of one before the latest", x.put(clean, 0), -1);
        x.wash(0);
        c.due("washing brings no like", x.at(0, 6), -1);
        c.due("washed", x.put(clean, 0), 1);
    }

    private static void putOfEachState(Check c) {
        c.part("promise 10: A LOT in STATE 2 comes to a BIN");
        OilPress x = Village.lotOfEachState(SMALL);
        for (int lot = 6; lot >= 0; lot--) {
            c.due("in state " + lot, x.put(lot, 0), lot == 2 ? 2 : -1);
            c.due("its state", x.told(lot, 3), lot == 2 ? 3 : lot);
        }
        c.due("LOTS in its BIN", x.at(0, 3), 2);
    }

    private static void takeOfEachState(Check c) {
        c.part("promise 11: A LOT leaves a BIN whose MILL isn't PRESSING (STATE 2 again)");
        OilPress x = Village.lotOfEachState(SMALL);
        for (int lot = 6; lot >= 0; lot--) {
            c.due("in state " + lot, x.take(lot), lot == 3);
            c.due("its state", x.told(lot, 3), lot == 3 ? 2 : lot);
        }
        c.due("out of it already", x.take(3), false);
        c.due("LOTS in the BIN", x.at(0, 3), 0);
        c.due("LOTS of a PRESSING", x.at(1, 3), 1);
    }

    private static void takeOfOneThatAgreed(Check c) {
        c.part("promise 11: the others stay in the BIN");
        for (int taken = 0; taken < 3; taken++) {
            OilPress x = Village.withGroves();
            for (int lot = 0; lot < 3; lot++) {
                x.put(Village.sampled(x, SMALL, 0, 10 + lot, 100, 10), 0);
            }
            c.due("take(" + taken + ")", x.take(taken), true);
            for (int lot = 0; lot < 3; lot++) {
                c.due("state of " + lot, x.told(lot, 3), lot == taken ? 2 : 3);
                c.due("mill of " + lot, x.told(lot, 9), lot == taken ? -1 : 0);
            }
            c.due("LOTS in its BIN", x.at(0, 3), 2);
            c.due("back again", x.put(taken, 0), 3);
        }
    }

    private static void washOfEmptyBin(Check c) {
        c.part("promise 12: A MILL with an empty BIN");
        OilPress x = Village.withGroves();
        int lot = Village.sampled(x, PLAIN, 0, 10, 100, 10);
        x.vat(2, false, 500);
        x.put(lot, 0);
        c.due("one in it", x.wash(0), false);
        c.due("not washed", x.at(0, 5), 0);
        c.due("not busy", x.at(0, 2), 0);
        x.take(lot);
        c.due("none in it", x.wash(0), true);
        x.put(lot, 1);
        x.wait(x.press(1));
        x.gave(1, 10);
        c.due("of a pressing", x.wash(1), false);
        x.share(1);
        c.due("shared", x.wash(1), false);
        x.pour(1, 0);
        c.due("poured", x.wash(1), true);
    }

    private static void washWhenNotBusy(Check c) {
        c.part("promise 12: that isn't BUSY");
        for (int hours = 0; hours <= 3; hours++) {
            OilPress x = new OilPress();
            x.wash(1);
            x.wait(hours);
            c.due(hours + " hours behind a washing", x.wash(1), hours >= 2);
            c.due("BUSY till", x.at(1, 2), hours >= 2 ? hours + 2 : 2);
        }
    }

    private static void twoHoursOfWashing(Check c) {
        c.part("promise 12: BUSY for 2 HOURS from NOW on, and WASHED");
        int[] hours = {0, 7, 997, 999};
        for (int hour : hours) {
            OilPress x = new OilPress();
            Village.till(x, hour);
            c.due("not washed", x.at(2, 5), 0);
            c.due("wash(2)", x.wash(2), true);
            c.due("BUSY till", x.at(2, 2), hour + 2);
            c.due("washed", x.at(2, 5), 1);
            c.due("not PRESSING", x.at(2, 4), 0);
            x.wait(2);
            c.due("washed still", x.at(2, 5), 1);
            c.due("again", x.wash(2), hour <= 997);
        }
    }

    private static void pressWhenNotBusy(Check c) {
        c.part("terms 2: not BUSY (NOW is the HOUR, or later)");
        for (int hours = 0; hours <= 3; hours++) {
            OilPress x = Village.withGroves();
            x.wash(0);
            x.put(Village.sampled(x, PLAIN, 0, 10, 100, 10), 0);
            x.wait(hours);
            c.due(hours + " hours behind a washing", x.press(0), hours >= 2 ? 1 : -1);
            c.due("PRESSING", x.at(0, 4), hours >= 2 ? 1 : 0);
            c.due("its lot's state", x.told(0, 3), hours >= 2 ? 4 : 3);
        }
    }

    private static void pressWhenNotPressing(Check c) {
        c.part("terms 2: A PRESSING may begin, if the MILL isn't PRESSING");
        OilPress x = Village.withGroves();
        x.vat(2, false, 500);
        x.put(Village.sampled(x, PLAIN, 0, 10, 100, 10), 0);
        c.due("not PRESSING", x.press(0), 1);
        c.due("busy", x.press(0), -1);
        x.wait(1);
        c.due("pressed", x.press(0), -1);
        x.gave(0, 10);
        c.due("told", x.press(0), -1);
        x.share(0);
        c.due("shared", x.press(0), -1);
        x.pour(0, 0);
        c.due("poured, no lots", x.press(0), -1);
        x.put(Village.sampled(x, PLAIN, 0, 10, 100, 10), 0);
        c.due("poured, a lot", x.press(0), 1);
    }

    private static void pressOfSome(Check c) {
        c.part("terms 2: LOTS are in the BIN");
        OilPress x = Village.withGroves();
        x.mill(0, 0, 500);
        c.due("none, no LEAST", x.press(0), -1);
        c.due("not PRESSING", x.at(0, 4), 0);
        c.due("not BUSY", x.at(0, 2), 0);
        int lot = Village.sampled(x, SMALL, 0, 10, 100, 10);
        x.put(lot, 0);
        x.take(lot);
        c.due("none any more", x.press(0), -1);
        x.put(lot, 0);
        c.due("one", x.press(0), 1);
    }

    private static void pressOfTheLeast(Check c) {
        c.part("terms 2: they have the LEAST together");
        int[] leasts = {0, 1, 149, 150, 151, 20000};
        for (int least : leasts) {
            OilPress x = Village.withGroves();
            x.mill(0, least, 500);
            x.put(Village.sampled(x, SMALL, 0, 10, 100, 10), 0);
            x.put(Village.sampled(x, DEBT, 0, 5, 100, 10), 0);
            c.due("150, the LEAST is " + least, x.press(0), least <= 150 ? 1 : -1);
        }
        for (int kilos = 1999; kilos <= 2001; kilos++) {
            OilPress x = Village.withGroves();
            x.mill(0, 20000, 5000);
            x.put(Village.sampled(x, SMALL, 0, kilos, 100, 10), 0);
            c.due(kilos + " kilos, the LEAST is 20000", x.press(0), kilos < 2000 ? -1 : kilos == 2000 ? 4 : 5);
        }
    }

    private static void pressOfOneAlone(Check c) {
        c.part("terms 2: or it is one alone that is PLAIN, CLEAN or LATE");
        for (int kind = 0; kind < 5; kind++) {
            for (int lots = 1; lots <= 2; lots++) {
                OilPress x = Village.withGroves();
                x.wash(0);
                x.wait(2);
                for (int i = 0; i < lots; i++) {
                    x.put(Village.withOthers(x, kind, 0, 49, 100, 10), 0);
                }
                boolean may = lots == 1 && kind != SMALL && kind != DEBT;
                c.due(lots + " of kind " + kind + ", below the LEAST", x.press(0), may ? 1 : -1);
            }
        }
        OilPress x = Village.withGroves();
        x.put(Village.sampled(x, PLAIN, 0, 1, 100, 10), 0);
        c.due("a plain one without the wish", x.press(0), 1);
        x.put(Village.withOthers(x, PLAIN, 0, 1, 100, 10), 1);
        x.put(Village.sampled(x, SMALL, 0, 1, 100, 10), 1);
        x.take(2);
        c.due("alone again", x.press(1), 1);
    }

    private static void begunHours(Check c) {
        c.part("terms 2: as many HOURS as their TENTHS by the RATE, a begun one as a whole one");
        int[] rates = {1, 2, 333, 334, 499, 500, 501, 999, 1000, 1001, 5000};
        int[] hours = {1000, 500, 4, 3, 3, 2, 2, 2, 1, 1, 1};
        for (int i = 0; i < rates.length; i++) {
            OilPress x = Village.withGroves();
            x.mill(0, 0, rates[i]);
            x.put(Village.sampled(x, SMALL, 0, 60, 100, 10), 0);
            x.put(Village.sampled(x, SMALL, 0, 40, 100, 10), 0);
            c.due("1000 by " + rates[i], x.press(0), hours[i]);
            c.due("BUSY till", x.at(0, 2), hours[i]);
        }
        OilPress x = Village.withGroves();
        x.mill(1, 0, 1);
        for (int i = 0; i < 12; i++) {
            x.put(Village.sampled(x, SMALL, 0, 10000, 400, 999), 1);
        }
        Village.till(x, 999);
        c.due("the most there can be", x.press(1), 1200000);
        c.due("BUSY till", x.at(1, 2), 1200999);
        c.due("what it PROMISES", x.at(1, 7), 480000);
        c.due("its SOURNESS", x.at(1, 9), 999);
    }

    private static void busySoLong(Check c) {
        c.part("terms 2: so long the MILL is BUSY");
        OilPress x = Village.withGroves();
        x.wait(5);
        x.put(Village.sampled(x, PLAIN, 0, 150, 100, 10), 0);
        c.due("press(0)", x.press(0), 3);
        c.due("BUSY till", x.at(0, 2), 8);
        x.wait(100);
        c.due("it is told afterwards too", x.at(0, 2), 8);
    }

    private static void pressingUntilPoured(Check c) {
        c.part("terms 2: it is PRESSING until its oil is POURED");
        OilPress x = Village.withGroves();
        x.vat(2, false, 500);
        x.put(Village.sampled(x, PLAIN, 0, 10, 100, 10), 0);
        c.due("in the bin", x.at(0, 4), 0);
        x.press(0);
        c.due("busy", x.at(0, 4), 1);
        x.wait(100);
        c.due("pressed", x.at(0, 4), 1);
        x.gave(0, 10);
        c.due("told", x.at(0, 4), 1);
        x.share(0);
        c.due("shared", x.at(0, 4), 1);
        c.due("no such vat", x.pour(0, 1), -1);
        c.due("refused", x.at(0, 4), 1);
        x.pour(0, 0);
        c.due("poured", x.at(0, 4), 0);
        c.due("none in its BIN", x.at(0, 3), 0);
    }

    private static void washedNoMore(Check c) {
        c.part("terms 2: it is WASHED no more");
        for (int kind = 0; kind < 5; kind++) {
            OilPress x = Village.withGroves();
            x.mill(0, 0, 500);
            x.wash(0);
            x.wait(2);
            x.put(Village.sampled(x, kind, 0, 10, 100, 10), 0);
            c.due("kind " + kind + " in the bin", x.at(0, 5), 1);
            x.press(0);
            c.due("kind " + kind + " pressed", x.at(0, 5), 0);
        }
    }

    private static void likeOfThePressing(Check c) {
        c.part("terms 2: its LIKE is that of the GROVES of CLEAN LOTS, or none");
        for (int kind = 0; kind < 5; kind++) {
            OilPress x = Village.withGroves();
            x.mill(0, 0, 500);
            x.wash(0);
            x.wait(2);
            x.put(Village.sampled(x, kind, 2, 10, 100, 10), 0);
            c.due("kind " + kind + " in the bin", x.at(0, 6), -1);
            x.press(0);
            c.due("kind " + kind + " pressed", x.at(0, 6), kind == CLEAN ? 2 : -1);
        }
        for (int like = 0; like <= 9; like += 9) {
            OilPress x = new OilPress();
            x.grove(0, like);
            x.wash(0);
            x.wait(2);
            x.put(Village.sampled(x, CLEAN, 0, 10, 100, 10), 0);
            x.press(0);
            c.due("like " + like, x.at(0, 6), like);
        }
    }

    /** A pressing of plain lots, each told by its eighths, thousandths and sourness. */
    private static OilPress pressingOf(int[]... lots) {
        OilPress x = Village.withGroves();
        x.mill(0, 0, 5000);
        x.scale(lots.length);
        for (int i = 0; i < lots.length; i++) {
            x.lot(PLAIN, 0);
            x.wish(i, true);
            x.weigh(i, lots[i][0]);
            x.sample(i, lots[i][1], lots[i][2]);
            x.put(i, 0);
        }
        x.press(0);
        return x;
    }

    private static void promisesAreCut(Check c) {
        c.part("terms 2: the sum of TENTHS times THOUSANDTHS, by 1000, cut");
        c.due("1 times 1", pressingOf(new int[] {1, 1, 0}).at(0, 7), 0);
        c.due("37 times 27 is 999", pressingOf(new int[] {30, 27, 0}).at(0, 7), 0);
        c.due("10 times 100 is 1000", pressingOf(new int[] {8, 100, 0}).at(0, 7), 1);
        c.due("1998 and 1", pressingOf(new int[] {30, 54, 0}, new int[] {1, 1, 0}).at(0, 7), 1);
        c.due("1998 and 2", pressingOf(new int[] {30, 54, 0}, new int[] {1, 2, 0}).at(0, 7), 2);
        c.due("999 and 999", pressingOf(new int[] {30, 27, 0}, new int[] {30, 27, 0}).at(0, 7), 1);
        c.due("the most of one", pressingOf(new int[] {80000, 400, 0}).at(0, 7), 40000);
    }

    private static void sournessIsCut(Check c) {
        c.part("terms 2: the sum of TENTHS times SOURNESS, by the sum of TENTHS, cut");
        c.due("none", pressingOf(new int[] {8, 100, 0}).at(0, 9), 0);
        c.due("999 alone", pressingOf(new int[] {1, 100, 999}).at(0, 9), 999);
        c.due("9 tenths of 10 parts", pressingOf(new int[] {8, 100, 0}, new int[] {1, 100, 10}).at(0, 9), 0);
        c.due("11 by 11", pressingOf(new int[] {8, 100, 0}, new int[] {1, 100, 11}).at(0, 9), 1);
        c.due("21 by 11", pressingOf(new int[] {8, 100, 1}, new int[] {1, 100, 11}).at(0, 9), 1);
        c.due("22 by 11", pressingOf(new int[] {8, 100, 1}, new int[] {1, 100, 12}).at(0, 9), 2);
        c.due("999 all but one", pressingOf(new int[] {80000, 1, 999}, new int[] {1, 400, 998}).at(0, 9), 998);
    }

    private static void gaveWhenNotBusy(Check c) {
        c.part("promise 14: a PRESSING that isn't BUSY any more; false if there is none such");
        for (int hours = 0; hours <= 3; hours++) {
            OilPress x = Village.withGroves();
            c.due("no lots", x.gave(0, 0), false);
            x.put(Village.sampled(x, PLAIN, 0, 100, 100, 10), 0);
            c.due("not pressing", x.gave(0, 0), false);
            x.press(0);
            x.wait(hours);
            c.due("hour " + hours + " of 2", x.gave(0, 10), hours >= 2);
            c.due("what it GAVE", x.at(0, 8), hours >= 2 ? 10 : -1);
        }
    }

    private static void gaveOnce(Check c) {
        c.part("promise 14: false if it was told");
        for (int tenths = 0; tenths <= 10; tenths += 10) {
            OilPress x = Village.withGroves();
            x.vat(2, false, 500);
            Village.pressed(x, 0, Village.sampled(x, PLAIN, 0, 10, 100, 10));
            c.due("the first time", x.gave(0, tenths), true);
            c.due("the second time", x.gave(0, 7), false);
            c.due("the same again", x.gave(0, tenths), false);
            c.due("what it GAVE", x.at(0, 8), tenths);
            x.share(0);
            c.due("shared", x.gave(0, 7), false);
            x.pour(0, 0);
            c.due("poured", x.gave(0, 0), false);
            c.due("TENTHS that were GIVEN", x.count(6), tenths);
            Village.pressed(x, 0, Village.sampled(x, PLAIN, 0, 10, 100, 10));
            c.due("another pressing", x.gave(0, 7), true);
        }
    }

    private static void gaveNotAbove(Check c) {
        c.part("promise 14: false if it is below 0, or above the TENTHS of its LOTS");
        int[] none = {Integer.MIN_VALUE, -2, -1, 151, 152, Integer.MAX_VALUE};
        int[] some = {0, 1, 149, 150};
        for (int most : some) {
            OilPress x = Village.withGroves();
            Village.pressed(x, 1, Village.sampled(x, SMALL, 0, 10, 1, 10), Village.sampled(x, DEBT, 0, 5, 1, 10));
            for (int tenths : none) {
                c.due("gave(1, " + tenths + ")", x.gave(1, tenths), false);
                c.due("not told", x.at(1, 8), -1);
                c.due("nothing GIVEN", x.count(6), 0);
            }
            c.due("gave(1, " + most + ")", x.gave(1, most), true);
            c.due("told", x.at(1, 8), most);
            c.due("GIVEN", x.count(6), most);
        }
    }

    private static void atWhat(Check c) {
        c.part("promise 27: NONE for others");
        OilPress x = Village.lotOfEachState(PLAIN);
        for (int mill = 0; mill < 3; mill++) {
            for (int what : Village.outside(0, 10)) {
                c.due("at(" + mill + ", " + what + ")", x.at(mill, what), -1);
            }
        }
    }

    private static void withoutAPressing(Check c) {
        c.part("promise 27: 8 and 10: NONE as long as; 7 and 9: 0, 8 and 10: NONE, without a PRESSING");
        OilPress x = Village.lotOfEachState(PLAIN);
        Due.at(c, x, 0, "a lot in the bin", 0, 5000, 3, 1, 0, 0, -1, 0, -1, 0, -1);
        Due.at(c, x, 1, "pressed", 0, 5000, 5, 1, 1, 0, -1, 10, -1, 10, -1);
        Due.at(c, x, 2, "shared", 0, 5000, 4, 1, 1, 0, -1, 10, 10, 10, 1);
        x.gave(1, 0);
        c.due("what it GAVE", x.at(1, 8), 0);
        c.due("not shared", x.at(1, 10), -1);
        x.share(1);
        c.due("shared", x.at(1, 10), 0);
        x.pour(2, 0);
        Due.at(c, x, 2, "poured", 0, 5000, 4, 0, 0, 0, -1, 0, -1, 0, -1);
    }
}
