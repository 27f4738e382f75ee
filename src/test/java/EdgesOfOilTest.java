/** Terms 2 (shares), terms 3 (vats) and promises 15 to 20, 28 and 31, bound by bound. */
final class EdgesOfOilTest {
    private static final int PLAIN = Village.PLAIN;
    private static final int SMALL = Village.SMALL;
    private static final int CLEAN = Village.CLEAN;
    private static final int LATE = Village.LATE;
    private static final int DEBT = Village.DEBT;

    public static void main(String[] args) {
        Check c = new Check();
        shareOfATold(c);
        sharedOnce(c);
        keptIsCut(c);
        keptAsToldLast(c);
        keepNumbers(c);
        partsAreCut(c);
        mostCutOffFirst(c);
        likeOnesToTheLesser(c);
        nothingToShare(c);
        sortsAndRooms(c);
        twelveVats(c);
        noSuchVat(c);
        pourOfAShared(c);
        cleanToClean(c);
        roomForAllGiven(c);
        roomBehindOthers(c);
        tappedByEach(c);
        tappedNoMore(c);
        lateToFine(c);
        sournessOfSorts(c);
        sournessOfTheVat(c);
        sournessSinceEmpty(c);
        sournessStays(c);
        lowestTerms(c);
        gaveNothing(c);
        whatPouringDoes(c);
        lastTenth(c);
        fetchOfEachState(c);
        fetchOfWhatIsLeft(c);
        drawNumbers(c);
        heldWhat(c);
        balanceOfEachStep(c);
        c.end();
    }

    /** A pressing in mill 0 of one plain lot of 1000 tenths that gave some, not shared yet. */
    private static OilPress given(int tenths) {
        OilPress x = Village.withGroves();
        Village.pressed(x, 0, Village.sampled(x, PLAIN, 0, 100, 100, 10));
        x.gave(0, tenths);
        return x;
    }

    private static void shareOfATold(Check c) {
        c.part("promise 15: A PRESSING whose oil was told is SHARED; NONE if there is none such");
        OilPress x = Village.withGroves();
        c.due("no lots", x.share(0), -1);
        int lot = Village.sampled(x, PLAIN, 0, 100, 100, 10);
        x.put(lot, 0);
        c.due("in the bin", x.share(0), -1);
        x.press(0);
        c.due("busy", x.share(0), -1);
        x.wait(2);
        c.due("not told", x.share(0), -1);
        c.due("its state", x.told(lot, 3), 4);
        c.due("what the press KEEPS", x.at(0, 10), -1);
        x.gave(0, 100);
        c.due("told", x.share(0), 10);
        c.due("its state", x.told(lot, 3), 5);
        c.due("what the press KEEPS", x.at(0, 10), 10);
        OilPress none = given(0);
        c.due("told that it gave nothing", none.share(0), 0);
    }

    private static void sharedOnce(Check c) {
        c.part("promise 15: NONE if it was SHARED");
        for (int tenths = 0; tenths <= 100; tenths += 100) {
            OilPress x = given(tenths);
            x.vat(2, false, 500);
            c.due("once", x.share(0), tenths / 10);
            x.keep(50);
            c.due("twice", x.share(0), -1);
            c.due("what the press KEEPS", x.at(0, 10), tenths / 10);
            c.due("the SHARE", x.told(0, 7), tenths - tenths / 10);
            x.pour(0, 0);
            c.due("poured", x.share(0), -1);
        }
    }

    private static void keptIsCut(Check c) {
        c.part("terms 2: the part of what it GAVE (10 of 100 at first; cut)");
        int[] tenths = {0, 1, 9, 10, 11, 19, 20, 99, 100, 999, 1000};
        for (int n : tenths) {
            OilPress x = given(n);
            c.due("of " + n, x.share(0), n / 10);
            c.due("the rest of " + n, x.told(0, 7), n - n / 10);
        }
        int[] keeps = {1, 33, 49, 50};
        int[][] rows = {{99, 0, 100, 1}, {3, 0, 4, 1}, {2, 0, 3, 1}, {1, 0, 2, 1}};
        for (int i = 0; i < keeps.length; i++) {
            for (int k = 0; k < 4; k += 2) {
                OilPress x = given(rows[i][k]);
                x.keep(keeps[i]);
                c.due(keeps[i] + " of 100 of " + rows[i][k], x.share(0), rows[i][k + 1]);
            }
        }
        OilPress x = Village.withGroves();
        x.mill(0, 0, 5000);
        for (int lot = 0; lot < 12; lot++) {
            x.put(Village.sampled(x, SMALL, 0, 10000, 400, 10), 0);
        }
        x.press(0);
        x.wait(100);
        Village.till(x, 240);
        c.due("the most there can be", x.gave(0, 1200000), true);
        x.keep(50);
        c.due("half of it", x.share(0), 600000);
        c.due("a twelfth of the rest", x.told(11, 7), 50000);
    }

    private static void keptAsToldLast(Check c) {
        c.part("terms 2: the part that was told last");
        OilPress x = given(100);
        x.keep(20);
        x.keep(30);
        x.keep(51);
        c.due("30 of 100", x.share(0), 30);
        x.keep(40);
        c.due("not told after it was SHARED", x.at(0, 10), 30);
        OilPress y = Village.withGroves();
        y.keep(5);
        Village.pressed(y, 0, Village.sampled(y, PLAIN, 0, 100, 100, 10));
        y.gave(0, 100);
        c.due("told before it began", y.share(0), 5);
    }

    private static void keepNumbers(Check c) {
        c.part("promise 16: n of 100 (0 .. 50); false for another n");
        for (int n : Village.outside(0, 50)) {
            OilPress x = given(100);
            c.due("keep(" + n + ")", x.keep(n), false);
            c.due("10 of 100 still", x.share(0), 10);
        }
        int[] some = {0, 1, 49, 50};
        for (int n : some) {
            OilPress x = given(100);
            c.due("keep(" + n + ")", x.keep(n), true);
            c.due(n + " of 100", x.share(0), n);
        }
    }

    /** Shares of small lots of those tenths (each times ten) and thousandths; the press keeps none. */
    private static void dueShares(Check c, int tenths, int[] kilos, int[] thousandths, int... shares) {
        OilPress x = Village.withGroves();
        x.keep(0);
        x.mill(0, 0, 5000);
        for (int lot = 0; lot < kilos.length; lot++) {
            x.put(Village.sampled(x, SMALL, 0, kilos[lot], thousandths[lot], 10), 0);
        }
        x.wait(x.press(0));
        x.gave(0, tenths);
        x.share(0);
        int sum = 0;
        for (int lot = 0; lot < kilos.length; lot++) {
            c.due(tenths + " to " + kilos.length + " lots, share of " + lot, x.told(lot, 7), shares[lot]);
            sum += x.told(lot, 7);
        }
        c.due("all of it", sum, tenths);
    }

    private static void partsAreCut(Check c) {
        c.part("terms 2: r times its TENTHS times its THOUSANDTHS by the sum of these products, cut");
        dueShares(c, 10, new int[] {1, 1}, new int[] {100, 100}, 5, 5);
        dueShares(c, 10, new int[] {1, 4}, new int[] {100, 100}, 2, 8);
        dueShares(c, 10, new int[] {1, 1}, new int[] {80, 320}, 2, 8);
        dueShares(c, 10, new int[] {4, 1}, new int[] {80, 320}, 5, 5);
        dueShares(c, 9, new int[] {4, 1}, new int[] {100, 100}, 7, 2);
        dueShares(c, 11, new int[] {4, 1}, new int[] {100, 100}, 9, 2);
        dueShares(c, 100, new int[] {10}, new int[] {1}, 100);
        dueShares(c, 200000, new int[] {10000, 10000}, new int[] {400, 399}, 100125, 99875);
    }

    private static void mostCutOffFirst(Check c) {
        c.part("terms 2: what is left of r goes, one TENTH each, to those of which most was cut off");
        int[] same = {100, 100, 100};
        dueShares(c, 10, new int[] {10, 20, 30}, same, 2, 3, 5);
        dueShares(c, 10, new int[] {30, 20, 10}, same, 5, 3, 2);
        dueShares(c, 10, new int[] {20, 10, 30}, same, 3, 2, 5);
        dueShares(c, 10, new int[] {1, 1, 6}, same, 1, 1, 8);
        dueShares(c, 11, new int[] {1, 1, 6}, same, 2, 1, 8);
        dueShares(c, 2, new int[] {3, 3, 4}, same, 1, 0, 1);
        dueShares(c, 1, new int[] {3, 3, 4}, same, 0, 0, 1);
        dueShares(c, 3, new int[] {1, 1, 98}, same, 0, 0, 3);
    }

    private static void likeOnesToTheLesser(Check c) {
        c.part("terms 2: of like ones to the lesser number");
        int[] orders = {0, 1, 2, 2, 1, 0, 1, 2, 0, 2, 0, 1};
        for (int i = 0; i < orders.length; i += 3) {
            for (int tenths = 3; tenths <= 5; tenths++) {
                OilPress x = Village.withGroves();
                x.keep(0);
                for (int lot = 0; lot < 3; lot++) {
                    Village.sampled(x, SMALL, 0, 10, 100, 10);
                }
                Village.pressed(x, 0, orders[i], orders[i + 1], orders[i + 2]);
                x.gave(0, tenths);
                x.share(0);
                for (int lot = 0; lot < 3; lot++) {
                    String when = orders[i] + " came first, " + tenths + " to three, share of ";
                    c.due(when + lot, x.told(lot, 7), lot < tenths - 3 ? 2 : 1);
                }
            }
        }
    }

    private static void nothingToShare(Check c) {
        c.part("promise 15: a PRESSING that GAVE nothing");
        OilPress x = Village.withGroves();
        Village.pressed(x, 0, Village.sampled(x, SMALL, 0, 10, 100, 10), Village.sampled(x, DEBT, 0, 10, 100, 10));
        x.gave(0, 0);
        c.due("KEEPS", x.share(0), 0);
        c.due("at(0, 10)", x.at(0, 10), 0);
        for (int lot = 0; lot < 2; lot++) {
            c.due("share of " + lot, x.told(lot, 7), 0);
            c.due("state of " + lot, x.told(lot, 3), 5);
        }
    }

    private static void sortsAndRooms(Check c) {
        c.part("promise 17: NONE if there is no such SORT (0 .. 2), ROOM isn't 1 .. 50000");
        OilPress x = new OilPress();
        for (int sort : Village.outside(0, 2)) {
            c.due("sort " + sort, x.vat(sort, false, 1), -1);
        }
        for (int room : Village.outside(1, 50000)) {
            c.due("room " + room, x.vat(0, true, room), -1);
        }
        c.due("none came", x.count(2), 0);
        for (int sort = 0; sort < 3; sort++) {
            c.due("the least room", x.vat(sort, false, 1), 2 * sort);
            c.due("the greatest room", x.vat(sort, true, 50000), 2 * sort + 1);
            Due.held(c, x, 2 * sort, "the least room", sort, 0, 1, 0, 0, 0, 0, 1);
            Due.held(c, x, 2 * sort + 1, "the greatest room", sort, 1, 50000, 0, 0, 0, 0, 1);
        }
    }

    private static void twelveVats(Check c) {
        c.part("promise 17: NONE if 12 came");
        OilPress x = new OilPress();
        for (int vat = 0; vat < 12; vat++) {
            c.due("vat " + vat, x.vat(vat % 3, vat % 2 == 1, vat + 1), vat);
        }
        c.due("12 came", x.vat(0, false, 1), -1);
        c.due("count(2)", x.count(2), 12);
        Due.held(c, x, 11, "the last", 2, 1, 12, 0, 0, 0, 0, 1);
        Due.held(c, x, 12, "none", -1, -1, -1, -1, -1, -1, -1, -1);
    }

    private static void noSuchVat(Check c) {
        c.part("promises 18, 20, 21, 28: no such VAT");
        OilPress x = Village.lotOfEachState(PLAIN);
        for (int vat : Village.outside(0, 0)) {
            c.due("pour(2, " + vat + ")", x.pour(2, vat), -1);
            c.due("draw(" + vat + ", 1)", x.draw(vat, 1), -1);
            c.due("lend(0, " + vat + ", 1)", x.lend(0, vat, 1), -1);
            for (int what = -1; what <= 8; what++) {
                c.due("held(" + vat + ", " + what + ")", x.held(vat, what), -1);
            }
        }
        c.due("vat 0 has what it had", x.pour(2, 0), 20);
        c.due("draw(0, 1)", x.draw(0, 1), 1);
        c.due("lend(0, 0, 1)", x.lend(0, 0, 1), 1);
    }

    private static void pourOfAShared(Check c) {
        c.part("promise 18: A SHARED PRESSING is POURED; NONE if there is no such PRESSING");
        OilPress x = Village.withGroves();
        x.vat(2, false, 500);
        c.due("no lots", x.pour(0, 0), -1);
        int lot = Village.sampled(x, PLAIN, 0, 100, 100, 10);
        x.put(lot, 0);
        c.due("in the bin", x.pour(0, 0), -1);
        x.press(0);
        c.due("busy", x.pour(0, 0), -1);
        x.wait(2);
        c.due("not told", x.pour(0, 0), -1);
        x.gave(0, 100);
        c.due("not SHARED", x.pour(0, 0), -1);
        c.due("its state", x.told(lot, 3), 4);
        Due.held(c, x, 0, "not poured", 2, 0, 500, 0, 0, 0, 0, 1);
        x.share(0);
        c.due("SHARED", x.pour(0, 0), 100);
        c.due("POURED already", x.pour(0, 0), -1);
        Due.held(c, x, 0, "poured once", 2, 0, 500, 100, 10, 0, 10, 1);
    }

    /** A shared pressing of one lot of the kind and sourness in mill 0: the press keeps a tenth of it. */
    private static OilPress shared(int kind, int sour, int tenths) {
        OilPress x = Village.withGroves();
        x.wash(0);
        x.wait(2);
        Village.shared(x, 0, tenths, Village.sampled(x, kind, 0, 100, 100, sour));
        return x;
    }

    private static void more(OilPress x, int kind, int sour, int tenths) {
        Village.shared(x, 0, tenths, Village.sampled(x, kind, 0, 100, 100, sour));
    }

    private static void cleanToClean(Check c) {
        c.part("terms 3: refused, if one is CLEAN and the other isn't");
        for (int kind = 0; kind < 5; kind++) {
            for (int sort = 0; sort < 3; sort++) {
                OilPress x = shared(kind, 10, 100);
                x.vat(sort, kind != CLEAN, 500);
                x.vat(sort, kind == CLEAN, 500);
                c.due("kind " + kind + ", one isn't", x.pour(0, 0), -1);
                boolean may = kind != LATE || sort != 0;
                c.due("kind " + kind + ", both or none", x.pour(0, 1), may ? 100 : -1);
            }
        }
    }

    private static void roomForAllGiven(Check c) {
        c.part("terms 3: if it hasn't ROOM for all that was GIVEN");
        int[] rooms = {1, 90, 99, 100, 101};
        for (int room : rooms) {
            OilPress x = shared(PLAIN, 10, 100);
            x.vat(2, false, room);
            c.due("100 to a room of " + room, x.pour(0, 0), room >= 100 ? 100 : -1);
            c.due("TENTHS in it", x.held(0, 3), room >= 100 ? 100 : 0);
        }
        OilPress x = shared(PLAIN, 10, 1);
        x.vat(2, false, 1);
        c.due("one to a room of one", x.pour(0, 0), 1);
    }

    private static void roomBehindOthers(Check c) {
        c.part("terms 3: ROOM, with what is in it");
        for (int tenths = 49; tenths <= 51; tenths++) {
            OilPress x = shared(PLAIN, 10, 100);
            x.vat(2, false, 150);
            x.pour(0, 0);
            more(x, PLAIN, 10, tenths);
            c.due(tenths + " to a room of 50", x.pour(0, 0), tenths <= 50 ? 100 + tenths : -1);
            c.due("TENTHS in it", x.held(0, 3), tenths <= 50 ? 100 + tenths : 100);
        }
        OilPress x = shared(PLAIN, 10, 100);
        x.vat(2, false, 100);
        x.pour(0, 0);
        more(x, PLAIN, 10, 1);
        c.due("one to a full one", x.pour(0, 0), -1);
        x.vat(2, false, 100);
        x.pour(0, 1);
        more(x, PLAIN, 10, 0);
        c.due("nothing to a full one", x.pour(0, 0), 100);
    }

    private static void tappedByEach(Check c) {
        c.part("terms 3: TAPPED (something was taken from it since it was empty last)");
        for (int by = 0; by < 4; by++) {
            OilPress x = shared(PLAIN, 10, 100);
            x.vat(2, false, 500);
            x.pour(0, 0);
            more(x, PLAIN, 10, 50);
            c.due("nothing taken", x.held(0, 5), 0);
            if (by == 1) {
                x.fetch(0);
            } else if (by == 2) {
                x.draw(0, 1);
            } else if (by == 3) {
                x.lend(0, 0, 1);
            }
            c.due("tapped by " + by, x.held(0, 5), by == 0 ? 0 : 1);
            c.due("poured, by " + by, x.pour(0, 0), by == 0 ? 150 : -1);
        }
        OilPress x = Village.withGroves();
        x.vat(2, false, 500);
        Village.shared(x, 0, 100, Village.sampled(x, DEBT, 0, 100, 100, 10));
        x.pour(0, 0);
        x.lend(5, 0, 10);
        x.vat(2, false, 500);
        Village.shared(x, 0, 100, Village.sampled(x, DEBT, 0, 100, 100, 10));
        x.pour(0, 1);
        c.due("paid in the vat", x.pay(1), 10);
        c.due("nothing was taken from it", x.held(1, 5), 0);
        more(x, PLAIN, 10, 50);
        c.due("poured to it", x.pour(0, 1), 150);
    }

    private static void tappedNoMore(Check c) {
        c.part("terms 3: since it was empty last");
        OilPress x = shared(PLAIN, 10, 100);
        x.vat(2, false, 500);
        x.pour(0, 0);
        more(x, PLAIN, 40, 50);
        x.draw(0, 10);
        x.fetch(0);
        c.due("empty", x.held(0, 5), 0);
        c.due("poured anew", x.pour(0, 0), 50);
        Due.held(c, x, 0, "filled anew", 2, 0, 500, 50, 5, 0, 40, 1);
        x.draw(0, 1);
        c.due("tapped anew", x.held(0, 5), 1);
    }

    private static void lateToFine(Check c) {
        c.part("terms 3: if a LATE LOT is in the PRESSING and the SORT is 0");
        for (int sort = 0; sort < 3; sort++) {
            OilPress x = shared(LATE, 0, 100);
            x.vat(sort, false, 500);
            c.due("late to sort " + sort, x.pour(0, 0), sort == 0 ? -1 : 100);
            OilPress y = shared(PLAIN, 0, 100);
            y.vat(sort, false, 500);
            c.due("plain to sort " + sort, y.pour(0, 0), 100);
        }
        OilPress x = Village.withGroves();
        x.vat(0, false, 500);
        Village.shared(x, 0, 100, Village.withOthers(x, LATE, 0, 10, 100, 0),
                Village.withOthers(x, LATE, 0, 10, 100, 0));
        c.due("two late ones to fine", x.pour(0, 0), -1);
        OilPress became = Village.withGroves();
        became.vat(0, false, 500);
        int lot = Village.sampled(became, PLAIN, 0, 100, 100, 0);
        Village.till(became, 40);
        Village.shared(became, 0, 100, lot);
        c.due("one that became late to fine", became.pour(0, 0), -1);
        OilPress pressed = Village.withGroves();
        pressed.vat(0, false, 500);
        Village.pressed(pressed, 0, Village.sampled(pressed, PLAIN, 0, 100, 100, 0));
        Village.till(pressed, 90);
        pressed.gave(0, 100);
        pressed.share(0);
        c.due("one pressed in time to fine", pressed.pour(0, 0), 100);
    }

    private static void sournessOfSorts(Check c) {
        c.part("terms 3: if its SOURNESS would be above 80 (SORT 0), 200 (SORT 1)");
        int[] sours = {0, 79, 80, 81, 199, 200, 201, 999};
        int[] limits = {80, 200, 999};
        for (int sour : sours) {
            for (int sort = 0; sort < 3; sort++) {
                OilPress x = shared(PLAIN, sour, 100);
                x.vat(sort, false, 500);
                boolean may = sour <= limits[sort];
                c.due(sour + " to sort " + sort, x.pour(0, 0), may ? 100 : -1);
                Due.held(c, x, 0, "poured or not", sort, 0, 500, may ? 100 : 0, may ? 10 : 0, 0, may ? sour : 0, 1);
            }
        }
    }

    private static void sournessOfTheVat(Check c) {
        c.part("terms 3: its SOURNESS, the VAT's with what would be POURED");
        int[] limits = {80, 200};
        for (int sort = 0; sort < 2; sort++) {
            int limit = limits[sort];
            for (int tenths = 99; tenths <= 101; tenths++) {
                OilPress x = shared(PLAIN, limit - 1, 100);
                x.vat(sort, false, 500);
                x.pour(0, 0);
                more(x, PLAIN, limit + 1, tenths);
                boolean may = tenths <= 100;
                c.due(tenths + " above by one, to 100 below", x.pour(0, 0), may ? 100 + tenths : -1);
                c.due("TENTHS in it", x.held(0, 3), may ? 100 + tenths : 100);
            }
            OilPress x = shared(PLAIN, limit, 1000);
            x.vat(sort, false, 5000);
            x.pour(0, 0);
            more(x, PLAIN, limit + 1, 1);
            c.due("above by a thousandth", x.pour(0, 0), -1);
            c.due("its SOURNESS", x.held(0, 6), limit);
            c.due("whole", x.held(0, 7), 1);
        }
    }

    private static void sournessSinceEmpty(Check c) {
        c.part("terms 3: the sum of all that was POURED since it was empty last");
        OilPress x = shared(PLAIN, 80, 100);
        x.vat(0, false, 500);
        x.pour(0, 0);
        x.fetch(0);
        x.draw(0, 10);
        Due.held(c, x, 0, "emptied", 0, 0, 500, 0, 0, 0, 0, 1);
        more(x, PLAIN, 81, 100);
        c.due("above, to an empty one", x.pour(0, 0), -1);
        x.vat(2, false, 500);
        x.pour(0, 1);
        more(x, PLAIN, 20, 50);
        c.due("to an empty one", x.pour(0, 0), 50);
        Due.held(c, x, 0, "filled anew", 0, 0, 500, 50, 5, 0, 20, 1);
    }

    private static void sournessStays(Check c) {
        c.part("terms 3: it stays as oil is taken");
        OilPress x = shared(PLAIN, 10, 100);
        x.vat(2, false, 500);
        x.pour(0, 0);
        more(x, PLAIN, 13, 50);
        x.pour(0, 0);
        Due.held(c, x, 0, "two poured", 2, 0, 500, 150, 15, 0, 11, 1);
        x.fetch(0);
        Due.held(c, x, 0, "fetched", 2, 0, 500, 60, 15, 1, 11, 1);
        x.draw(0, 14);
        Due.held(c, x, 0, "drawn", 2, 0, 500, 46, 1, 1, 11, 1);
        x.lend(0, 0, 1);
        Due.held(c, x, 0, "lent", 2, 0, 500, 45, 0, 1, 11, 1);
        x.fetch(1);
        Due.held(c, x, 0, "all taken", 2, 0, 500, 0, 0, 0, 0, 1);
    }

    private static void lowestTerms(Check c) {
        c.part("promise 28: its SOURNESS 6 above, 7 below (lowest terms; 0 and 1 if it is empty)");
        int[][] rows = {{0, 100, 0, 50, 0, 1}, {10, 100, 10, 7, 10, 1}, {0, 100, 1, 1, 1, 101},
            {0, 100, 1, 100, 1, 2}, {0, 99, 999, 1, 999, 100}, {6, 60, 9, 30, 7, 1}, {1, 1, 2, 1, 3, 2},
            {12, 10, 27, 20, 22, 1}, {12, 10, 28, 20, 68, 3}, {999, 1000, 998, 1, 999998, 1001}};
        for (int[] row : rows) {
            OilPress x = shared(PLAIN, row[0], row[1]);
            x.vat(2, false, 5000);
            x.pour(0, 0);
            more(x, PLAIN, row[2], row[3]);
            x.pour(0, 0);
            String when = row[1] + " of " + row[0] + " and " + row[3] + " of " + row[2];
            c.due(when + ", above", x.held(0, 6), row[4]);
            c.due(when + ", below", x.held(0, 7), row[5]);
        }
    }

    private static void gaveNothing(Check c) {
        c.part("terms 3: (A PRESSING that GAVE nothing changes none.)");
        OilPress x = shared(PLAIN, 999, 0);
        x.vat(0, false, 100);
        c.due("sour, to an empty one", x.pour(0, 0), 0);
        Due.held(c, x, 0, "nothing poured", 0, 0, 100, 0, 0, 0, 0, 1);
        c.due("its lot is POURED", x.told(0, 3), 6);
        c.due("nothing is LEFT", x.fetch(0), -1);
        more(x, PLAIN, 80, 100);
        x.pour(0, 0);
        more(x, PLAIN, 999, 0);
        c.due("sour, to one at the limit", x.pour(0, 0), 100);
        Due.held(c, x, 0, "nothing poured to 100", 0, 0, 100, 100, 10, 0, 80, 1);
        c.due("not PRESSING", x.at(0, 4), 0);
        x.draw(0, 1);
        more(x, PLAIN, 10, 0);
        c.due("to a tapped one", x.pour(0, 0), -1);
        c.due("PRESSING still", x.at(0, 4), 1);
    }

    private static void whatPouringDoes(Check c) {
        c.part("terms 3: all its LOTS are POURED, what the press KEEPS is the press's in that VAT");
        OilPress x = Village.withGroves();
        x.vat(1, false, 500);
        x.vat(2, false, 500);
        Village.shared(x, 1, 95, Village.sampled(x, SMALL, 0, 10, 100, 10), Village.sampled(x, DEBT, 2, 20, 100, 10));
        c.due("pour(1, 1)", x.pour(1, 1), 95);
        int[] shares = {29, 57};
        for (int lot = 0; lot < 2; lot++) {
            c.due("state of " + lot, x.told(lot, 3), 6);
            c.due("vat of " + lot, x.told(lot, 9), 1);
            c.due("SHARE of " + lot, x.told(lot, 7), shares[lot]);
            c.due("LEFT of " + lot, x.told(lot, 8), shares[lot]);
        }
        Due.held(c, x, 1, "poured", 2, 0, 500, 95, 9, 0, 10, 1);
        Due.held(c, x, 0, "another", 1, 0, 500, 0, 0, 0, 0, 1);
        c.due("its BIN is empty", x.at(1, 3), 0);
        c.due("it isn't PRESSING", x.at(1, 4), 0);
    }

    private static void lastTenth(Check c) {
        c.part("terms 3: When the last TENTH is taken the VAT is empty, not TAPPED, without SOURNESS");
        for (int by = 0; by < 3; by++) {
            OilPress x = shared(PLAIN, 33, 20);
            x.vat(2, false, 500);
            x.pour(0, 0);
            if (by == 0) {
                x.draw(0, 2);
                Due.held(c, x, 0, "the lot's is left", 2, 0, 500, 18, 0, 1, 33, 1);
                c.due("the last by fetch", x.fetch(0), 18);
            } else {
                x.fetch(0);
                x.draw(0, 1);
                Due.held(c, x, 0, "one is left", 2, 0, 500, 1, 1, 1, 33, 1);
                c.due("the last by " + by, by == 1 ? x.draw(0, 1) : x.lend(0, 0, 1), by == 1 ? 0 : 1);
            }
            Due.held(c, x, 0, "the last taken", 2, 0, 500, 0, 0, 0, 0, 1);
            c.due("the lot is in it still", x.told(0, 9), 0);
        }
    }

    private static void fetchOfEachState(Check c) {
        c.part("promise 19: NONE if there is no such LOT in a VAT");
        for (int kind = 0; kind < 5; kind++) {
            OilPress x = Village.lotOfEachState(kind);
            for (int lot = 0; lot < 7; lot++) {
                c.due("kind " + kind + ", in state " + lot, x.fetch(lot), lot == 6 ? 9 : -1);
            }
            c.due("fetched", x.count(7), 9);
        }
    }

    private static void fetchOfWhatIsLeft(Check c) {
        c.part("promise 19: NONE if nothing is LEFT");
        OilPress x = Village.withGroves();
        x.vat(2, false, 500);
        x.keep(0);
        Village.shared(x, 0, 3, Village.sampled(x, SMALL, 0, 1, 1, 10), Village.sampled(x, SMALL, 0, 100, 400, 10),
                Village.sampled(x, SMALL, 0, 50, 400, 10));
        x.pour(0, 0);
        c.due("it had no SHARE", x.fetch(0), -1);
        c.due("two of three", x.fetch(1), 2);
        c.due("fetched already", x.fetch(1), -1);
        c.due("its state", x.told(1, 3), 6);
        c.due("the last one", x.fetch(2), 1);
        c.due("fetched", x.count(7), 3);
        Due.held(c, x, 0, "all fetched", 2, 0, 500, 0, 0, 0, 0, 1);
    }

    private static void drawNumbers(Check c) {
        c.part("promise 20: NONE if tenths is below 1, or it has not so many");
        OilPress x = shared(PLAIN, 10, 1000);
        x.vat(2, false, 5000);
        c.due("nothing in it", x.draw(0, 1), -1);
        x.pour(0, 0);
        int[] none = {Integer.MIN_VALUE, -1, 0, 101, 900, 1000, Integer.MAX_VALUE};
        for (int tenths : none) {
            c.due("draw(0, " + tenths + ")", x.draw(0, tenths), -1);
            Due.held(c, x, 0, "refused", 2, 0, 5000, 1000, 100, 0, 10, 1);
            c.due("drawn", x.count(8), 0);
        }
        c.due("draw(0, 1)", x.draw(0, 1), 99);
        c.due("one too many", x.draw(0, 100), -1);
        c.due("all it has", x.draw(0, 99), 0);
        c.due("none left of it", x.draw(0, 1), -1);
        c.due("drawn", x.count(8), 100);
        c.due("the lot's is left", x.held(0, 3), 900);
    }

    private static void heldWhat(Check c) {
        c.part("promise 28: NONE for others");
        OilPress x = Village.lotOfEachState(CLEAN);
        for (int what : Village.outside(0, 7)) {
            c.due("held(0, " + what + ")", x.held(0, what), -1);
        }
        Due.held(c, x, 0, "clean", 2, 1, 500, 10, 1, 0, 10, 1);
    }

    private static void balanceOfEachStep(Check c) {
        c.part("promise 31: GAVE less those in MILLS, in VATS, fetched, drawn or lent");
        OilPress x = Village.withGroves();
        x.vat(2, false, 500);
        Village.pressed(x, 0, Village.sampled(x, DEBT, 0, 10, 100, 10));
        c.due("not told", x.balance(), 0);
        x.gave(0, 100);
        c.due("in a mill", x.balance(), 0);
        x.share(0);
        c.due("shared", x.balance(), 0);
        x.pour(0, 0);
        c.due("in a vat", x.balance(), 0);
        x.draw(0, 3);
        x.lend(5, 0, 4);
        c.due("drawn and lent", x.balance(), 0);
        x.pay(0);
        c.due("paid", x.balance(), 0);
        x.hand(5, 2, 100);
        c.due("by hand", x.balance(), 0);
        x.fetch(0);
        c.due("fetched", x.balance(), 0);
        Due.counts(c, x, "counted", 3, 1, 1, 0, 1, 0, 100, 86, 3, 4, 0);
    }
}
