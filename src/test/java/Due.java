/** Rows of answers that are due to the questions of a lot, a mill, a vat or a plan, from the first question on. */
final class Due {
    private Due() {
    }

    static void told(Check c, OilPress x, int lot, String when, int... want) {
        for (int what = 0; what < want.length; what++) {
            c.due(when + ", told(" + lot + ", " + what + ")", x.told(lot, what), want[what]);
        }
    }

    static void at(Check c, OilPress x, int mill, String when, int... want) {
        for (int what = 0; what < want.length; what++) {
            c.due(when + ", at(" + mill + ", " + what + ")", x.at(mill, what), want[what]);
        }
    }

    static void held(Check c, OilPress x, int vat, String when, int... want) {
        for (int what = 0; what < want.length; what++) {
            c.due(when + ", held(" + vat + ", " + what + ")", x.held(vat, what), want[what]);
        }
    }

    static void counts(Check c, OilPress x, String when, int... want) {
        for (int what = 0; what < want.length; what++) {
            c.due(when + ", count(" + what + ")", x.count(what), want[what]);
        }
    }

    static void owes(Check c, OilPress x, int farmer, String when, int... want) {
        for (int sort = 0; sort < want.length; sort++) {
            c.due(when + ", owes(" + farmer + ", " + sort + ")", x.owes(farmer, sort), want[sort]);
        }
    }

    /** The latest plan: how many are too late, the hour at which it ends, and its lots; no others. */
    static void plan(Check c, OilPress x, String when, int tooLate, int end, int... order) {
        c.due(when + ", planned(-1)", x.planned(-1), tooLate);
        c.due(when + ", planned(-2)", x.planned(-2), end);
        for (int i = 0; i < order.length; i++) {
            c.due(when + ", planned(" + i + ")", x.planned(i), order[i]);
        }
        c.due(when + ", behind the last", x.planned(order.length), -1);
        c.due(when + ", planned(-3)", x.planned(-3), -1);
    }
}
