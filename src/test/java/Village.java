/** Short ways to the states that the tests begin from. */
final class Village {
    static final int PLAIN = 0;
    static final int SMALL = 1;
    static final int CLEAN = 2;
    static final int LATE = 3;
    static final int DEBT = 4;

    private Village() {
    }

    /** A press with groves 0 (farmer 5, like 1), 1 (farmer 6, like 1) and 2 (farmer 7, like 2). */
    static OilPress withGroves() {
        OilPress x = new OilPress();
        x.grove(5, 1);
        x.grove(6, 1);
        x.grove(7, 2);
        return x;
    }

    /** Eighths are shown so that the lot weighs ten tenths a kilo. Uses a new scale of today. */
    static int sampled(OilPress x, int kind, int grove, int kilos, int thousandths, int sour) {
        int lot = x.lot(kind, grove);
        x.scale(1);
        x.weigh(lot, kilos * 8);
        x.sample(lot, thousandths, sour);
        return lot;
    }

    /** As sampled(), and pressed with others, if it is plain or late. */
    static int withOthers(OilPress x, int kind, int grove, int kilos, int thousandths, int sour) {
        int lot = sampled(x, kind, grove, kilos, thousandths, sour);
        x.wish(lot, true);
        return lot;
    }

    /** Puts the lots to a mill without a least, presses them, and waits till the mill isn't busy. */
    static void pressed(OilPress x, int mill, int... lots) {
        x.mill(mill, 0, 5000);
        for (int lot : lots) {
            x.put(lot, mill);
        }
        x.wait(x.press(mill));
    }

    static void shared(OilPress x, int mill, int tenths, int... lots) {
        pressed(x, mill, lots);
        x.gave(mill, tenths);
        x.share(mill);
    }

    /** A vat of the sort with the oil of one lot of grove 0 in it: half of it is the press's. */
    static int filled(OilPress x, int sort, int tenths, int kind) {
        int vat = x.vat(sort, false, 50000);
        x.keep(50);
        shared(x, 0, tenths, sampled(x, kind, 0, 5000, 100, 10));
        x.pour(0, vat);
        return vat;
    }

    /** Lot i is in state i, all of the kind and of grove 0; vat 0 is for lamps; it is day 0 still. */
    static OilPress lotOfEachState(int kind) {
        OilPress x = withGroves();
        for (int mill = 0; mill < 3; mill++) {
            x.wash(mill);
        }
        x.wait(2);
        for (int lot = 0; lot < 7; lot++) {
            x.lot(kind, 0);
        }
        x.scale(7);
        for (int lot = 1; lot < 7; lot++) {
            x.weigh(lot, 80);
        }
        for (int lot = 2; lot < 7; lot++) {
            x.sample(lot, 100, 10);
        }
        x.vat(2, kind == CLEAN, 500);
        shared(x, 0, 10, 6);
        x.pour(0, 0);
        shared(x, 2, 10, 5);
        pressed(x, 1, 4);
        x.put(3, 0);
        return x;
    }

    /** Waits till the hour (999 at most). */
    static void till(OilPress x, int hour) {
        while (x.count(4) < hour && hour <= 999) {
            x.wait(Math.min(100, hour - x.count(4)));
        }
    }

    /** The numbers nearest to least .. most and farthest from it on both sides. */
    static int[] outside(int least, int most) {
        return new int[] {Integer.MIN_VALUE, least - 1, most + 1, Integer.MAX_VALUE};
    }
}
