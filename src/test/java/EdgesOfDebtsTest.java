/** Terms 3 (what is lent and paid back) and promises 21 to 24, bound by bound. */
final class EdgesOfDebtsTest {
    private static final int PLAIN = Village.PLAIN;
    private static final int SMALL = Village.SMALL;
    private static final int DEBT = Village.DEBT;

    public static void main(String[] args) {
        Check c = new Check();
        lendNumbers(c);
        owesOfTheSort(c);
        sortsFromItsOwnOn(c);
        asLongAsThereIsSome(c);
        countsOfFiner(c);
        leastThatIsAll(c);
        allThatThereIs(c);
        notBelowNone(c);
        payOfEachState(c);
        payOfEachKind(c);
        payOfWhatIsLeft(c);
        payByItsFarmer(c);
        paidIsThePresss(c);
        handNumbers(c);
        handSorts(c);
        handToNoVat(c);
        owesNumbers(c);
        c.end();
    }

    private static void lendNumbers(Check c) {
        c.part("promise 21: NONE if tenths is below 1, or the press has not so many there");
        OilPress x = Village.withGroves();
        int empty = x.vat(2, false, 500);
        int vat = Village.filled(x, 1, 200, PLAIN);
        int[] none = {Integer.MIN_VALUE, -1, 0, 101, 200, Integer.MAX_VALUE};
        for (int tenths : none) {
            c.due("lend(7, 1, " + tenths + ")", x.lend(7, vat, tenths), -1);
            c.due("owes(7, 1)", x.owes(7, 1), 0);
            c.due("lent", x.count(9), 0);
            Due.held(c, x, vat, "refused", 1, 0, 50000, 200, 100, 0, 10, 1);
        }
        c.due("of an empty one", x.lend(7, empty, 1), -1);
        c.due("lend(7, 1, 1)", x.lend(7, vat, 1), 1);
        Due.held(c, x, vat, "one lent", 1, 0, 50000, 199, 99, 1, 10, 1);
        c.due("one too many", x.lend(7, vat, 100), -1);
        c.due("all it has", x.lend(7, vat, 99), 100);
        Due.held(c, x, vat, "all lent", 1, 0, 50000, 100, 0, 1, 10, 1);
        c.due("none left of it", x.lend(7, vat, 1), -1);
        c.due("lent", x.count(9), 100);
    }

    private static void owesOfTheSort(Check c) {
        c.part("terms 3: then the FARMER OWES as many TENTHS of that SORT");
        OilPress x = Village.withGroves();
        for (int sort = 0; sort < 3; sort++) {
            int vat = Village.filled(x, sort, 100, PLAIN);
            c.due("the first", x.lend(8, vat, 10 + sort), 10 + sort);
            c.due("more", x.lend(8, vat, 1), 11 + sort);
            c.due("another farmer", x.lend(9, vat, 2), 2);
        }
        for (int sort = 0; sort < 3; sort++) {
            c.due("owes(8, " + sort + ")", x.owes(8, sort), 11 + sort);
            c.due("owes(9, " + sort + ")", x.owes(9, sort), 2);
            c.due("owes(7, " + sort + ")", x.owes(7, sort), 0);
        }
    }

    /** Farmer 5, of grove 0, owes these TENTHS of the sorts. */
    private static OilPress owing(int... tenths) {
        OilPress x = Village.withGroves();
        for (int sort = 0; sort < 3; sort++) {
            x.lend(5, Village.filled(x, sort, 2000, PLAIN), tenths[sort]);
        }
        return x;
    }

    private static void dueByHand(Check c, OilPress x, int sort, int tenths, int taken, int... owed) {
        String call = "hand(5, " + sort + ", " + tenths + ")";
        c.due(call, x.hand(5, sort, tenths), taken);
        Due.owes(c, x, 5, call, owed);
    }

    private static void sortsFromItsOwnOn(Check c) {
        c.part("terms 3: Oil of a SORT s PAYS what a FARMER OWES of SORTS t, for t from s on to 2");
        dueByHand(c, owing(100, 100, 100), 0, 50000, 100 + 91 + 84, 0, 0, 0);
        dueByHand(c, owing(100, 100, 100), 1, 50000, 100 + 91, 100, 0, 0);
        dueByHand(c, owing(100, 100, 100), 2, 50000, 100, 100, 100, 0);
        dueByHand(c, owing(100, 0, 0), 1, 50000, 0, 100, 0, 0);
        dueByHand(c, owing(0, 100, 0), 2, 50000, 0, 0, 100, 0);
        dueByHand(c, owing(0, 0, 100), 0, 50000, 84, 0, 0, 0);
    }

    private static void asLongAsThereIsSome(Check c) {
        c.part("terms 3: as long as there is some");
        dueByHand(c, owing(100, 100, 100), 0, 99, 99, 1, 100, 100);
        dueByHand(c, owing(100, 100, 100), 0, 100, 100, 0, 100, 100);
        dueByHand(c, owing(100, 100, 100), 0, 101, 101, 0, 99, 100);
        dueByHand(c, owing(100, 100, 100), 0, 190, 190, 0, 1, 100);
        dueByHand(c, owing(100, 100, 100), 0, 191, 191, 0, 0, 100);
        dueByHand(c, owing(100, 100, 100), 0, 192, 192, 0, 0, 99);
        dueByHand(c, owing(100, 100, 100), 0, 274, 274, 0, 0, 1);
        dueByHand(c, owing(100, 100, 100), 0, 275, 275, 0, 0, 0);
        dueByHand(c, owing(100, 100, 100), 0, 276, 275, 0, 0, 0);
        dueByHand(c, owing(100, 100, 100), 1, 101, 101, 100, 0, 99);
    }

    private static void countsOfFiner(Check c) {
        c.part("terms 3: each TENTH counts 100 + 10 (t - s) of 100, cut");
        dueByHand(c, owing(0, 500, 0), 0, 1, 1, 0, 499, 0);
        dueByHand(c, owing(0, 500, 0), 0, 9, 9, 0, 491, 0);
        dueByHand(c, owing(0, 500, 0), 0, 10, 10, 0, 489, 0);
        dueByHand(c, owing(0, 500, 0), 0, 19, 19, 0, 480, 0);
        dueByHand(c, owing(0, 500, 0), 0, 20, 20, 0, 478, 0);
        dueByHand(c, owing(0, 0, 500), 0, 4, 4, 0, 0, 496);
        dueByHand(c, owing(0, 0, 500), 0, 5, 5, 0, 0, 494);
        dueByHand(c, owing(0, 0, 500), 0, 10, 10, 0, 0, 488);
        dueByHand(c, owing(0, 0, 500), 1, 10, 10, 0, 0, 489);
        dueByHand(c, owing(0, 0, 500), 2, 10, 10, 0, 0, 490);
        dueByHand(c, owing(0, 500, 0), 1, 10, 10, 0, 490, 0);
        dueByHand(c, owing(500, 0, 0), 0, 10, 10, 490, 0, 0);
    }

    private static void leastThatIsAll(Check c) {
        c.part("terms 3: taken is the least whole number of TENTHS that, so counted and cut, is all that is owed");
        dueByHand(c, owing(0, 1, 0), 0, 500, 1, 0, 0, 0);
        dueByHand(c, owing(0, 9, 0), 0, 500, 9, 0, 0, 0);
        dueByHand(c, owing(0, 10, 0), 0, 500, 10, 0, 0, 0);
        dueByHand(c, owing(0, 11, 0), 0, 500, 10, 0, 0, 0);
        dueByHand(c, owing(0, 12, 0), 0, 500, 11, 0, 0, 0);
        dueByHand(c, owing(0, 0, 5), 0, 500, 5, 0, 0, 0);
        dueByHand(c, owing(0, 0, 6), 0, 500, 5, 0, 0, 0);
        dueByHand(c, owing(0, 0, 7), 0, 500, 6, 0, 0, 0);
        dueByHand(c, owing(7, 0, 0), 0, 500, 7, 0, 0, 0);
        dueByHand(c, owing(0, 0, 0), 0, 500, 0, 0, 0, 0);
    }

    private static void allThatThereIs(Check c) {
        c.part("terms 3: or all that there is");
        dueByHand(c, owing(0, 12, 0), 0, 10, 10, 0, 1, 0);
        dueByHand(c, owing(0, 12, 0), 0, 11, 11, 0, 0, 0);
        dueByHand(c, owing(0, 0, 7), 0, 5, 5, 0, 0, 1);
        dueByHand(c, owing(0, 0, 7), 0, 6, 6, 0, 0, 0);
        dueByHand(c, owing(7, 0, 0), 0, 6, 6, 1, 0, 0);
        dueByHand(c, owing(7, 7, 7), 0, 1, 1, 6, 7, 7);
        dueByHand(c, owing(7, 7, 7), 0, 0, 0, 7, 7, 7);
    }

    private static void notBelowNone(Check c) {
        c.part("terms 3: owed is as many less as those count (cut), not below 0");
        dueByHand(c, owing(0, 10, 0), 0, 10, 10, 0, 0, 0);
        dueByHand(c, owing(0, 10, 0), 0, 9, 9, 0, 1, 0);
        dueByHand(c, owing(0, 0, 5), 0, 5, 5, 0, 0, 0);
        OilPress x = owing(0, 10, 0);
        x.hand(5, 0, 10);
        c.due("nothing is owed", x.hand(5, 0, 10), 0);
        int vat = Village.filled(x, 1, 100, PLAIN);
        c.due("owed anew", x.lend(5, vat, 3), 3);
    }

    private static void payOfEachState(Check c) {
        c.part("promise 22: NONE if there is no such DEBT in a VAT");
        OilPress x = Village.lotOfEachState(DEBT);
        x.lend(5, 0, 1);
        for (int lot = 0; lot < 7; lot++) {
            c.due("in state " + lot, x.pay(lot), lot == 6 ? 1 : -1);
            c.due("owes(5, 2)", x.owes(5, 2), lot == 6 ? 0 : 1);
        }
    }

    private static void payOfEachKind(Check c) {
        c.part("promise 22: a DEBT's");
        for (int kind = 0; kind < 5; kind++) {
            OilPress x = Village.lotOfEachState(kind);
            x.lend(5, 0, 1);
            c.due("kind " + kind, x.pay(6), kind == DEBT ? 1 : -1);
            c.due("owes(5, 2)", x.owes(5, 2), kind == DEBT ? 0 : 1);
            c.due("what is LEFT", x.told(6, 8), kind == DEBT ? 8 : 9);
        }
    }

    private static void payOfWhatIsLeft(Check c) {
        c.part("promise 22: NONE if nothing is LEFT");
        OilPress x = Village.lotOfEachState(DEBT);
        c.due("nothing owed", x.pay(6), 0);
        c.due("what is LEFT", x.told(6, 8), 9);
        x.lend(5, 0, 1);
        c.due("one owed", x.pay(6), 1);
        c.due("what is LEFT", x.told(6, 8), 8);
        x.lend(5, 0, 1);
        c.due("one owed again", x.pay(6), 1);
        c.due("what is LEFT", x.told(6, 8), 7);
        c.due("fetch(6)", x.fetch(6), 7);
        c.due("nothing is LEFT", x.pay(6), -1);
        OilPress y = Village.withGroves();
        y.lend(5, Village.filled(y, 2, 100, PLAIN), 50);
        int vat = y.vat(2, false, 500);
        Village.shared(y, 1, 20, Village.sampled(y, DEBT, 0, 10, 100, 10));
        y.pour(1, vat);
        c.due("all of it", y.pay(1), 10);
        c.due("nothing is LEFT, owed is some", y.pay(1), -1);
        c.due("owes(5, 2)", y.owes(5, 2), 40);
        c.due("nothing to fetch", y.fetch(1), -1);
        Village.shared(y, 1, 1, Village.sampled(y, DEBT, 0, 10, 100, 10));
        c.due("no part of one is kept", y.at(1, 10), 0);
        y.pour(1, vat);
        c.due("one is LEFT", y.pay(2), 1);
        c.due("nothing is LEFT", y.pay(2), -1);
        c.due("owes(5, 2)", y.owes(5, 2), 39);
    }

    private static void payByItsFarmer(Check c) {
        c.part("promise 22: what its GROVE's FARMER OWES, by the VAT's SORT");
        for (int sort = 0; sort < 3; sort++) {
            OilPress x = owing(100, 100, 100);
            x.lend(6, 2, 100);
            x.keep(0);
            int vat = x.vat(sort, false, 5000);
            Village.shared(x, 0, 300, Village.sampled(x, DEBT, 0, 100, 100, 10));
            x.pour(0, vat);
            c.due("by sort " + sort, x.pay(3), sort == 0 ? 275 : sort == 1 ? 191 : 100);
            for (int t = 0; t < 3; t++) {
                c.due("owes(5, " + t + ")", x.owes(5, t), t < sort ? 100 : 0);
            }
            c.due("another farmer's", x.owes(6, 2), 100);
        }
    }

    private static void paidIsThePresss(Check c) {
        c.part("promise 22: what is taken is the press's in that VAT");
        OilPress x = owing(0, 0, 40);
        x.keep(10);
        int vat = x.vat(0, false, 5000);
        Village.shared(x, 0, 100, Village.sampled(x, DEBT, 0, 100, 100, 10));
        x.pour(0, vat);
        Due.held(c, x, vat, "poured", 0, 0, 5000, 100, 10, 0, 10, 1);
        c.due("40 counted by 120", x.pay(3), 34);
        Due.held(c, x, vat, "paid", 0, 0, 5000, 100, 44, 0, 10, 1);
        c.due("one too many", x.draw(vat, 45), -1);
        c.due("draw", x.draw(vat, 44), 0);
        c.due("the rest", x.fetch(3), 56);
        Due.held(c, x, vat, "all taken", 0, 0, 5000, 0, 0, 0, 0, 1);
    }

    private static void handNumbers(Check c) {
        c.part("promise 23: NONE if tenths is not 0 .. 50000");
        OilPress x = owing(0, 0, 100);
        for (int tenths : Village.outside(0, 50000)) {
            c.due("hand(5, 2, " + tenths + ")", x.hand(5, 2, tenths), -1);
            c.due("owes(5, 2)", x.owes(5, 2), 100);
        }
        dueByHand(c, x, 2, 0, 0, 0, 0, 100);
        dueByHand(c, x, 2, 1, 1, 0, 0, 99);
        dueByHand(c, x, 2, 50000, 99, 0, 0, 0);
    }

    private static void handSorts(Check c) {
        c.part("promise 23: NONE if there is no such SORT");
        OilPress x = owing(100, 100, 100);
        for (int sort : Village.outside(0, 2)) {
            c.due("hand(5, " + sort + ", 1)", x.hand(5, sort, 1), -1);
        }
        dueByHand(c, x, 2, 1, 1, 100, 100, 99);
        dueByHand(c, x, 1, 1, 1, 100, 99, 99);
        dueByHand(c, x, 0, 1, 1, 99, 99, 99);
    }

    private static void handToNoVat(Check c) {
        c.part("promise 23: (they come to no VAT)");
        OilPress x = owing(100, 100, 100);
        x.hand(5, 0, 50000);
        for (int vat = 0; vat < 3; vat++) {
            Due.held(c, x, vat, "lent, paid by hand", vat, 0, 50000, 1900, 900, 1, 10, 1);
        }
        c.due("lent", x.count(9), 300);
        c.due("balance()", x.balance(), 0);
    }

    private static void owesNumbers(Check c) {
        c.part("promise 24: NONE if there is none such");
        OilPress x = owing(1, 2, 3);
        for (int sort : Village.outside(0, 2)) {
            c.due("owes(5, " + sort + ")", x.owes(5, sort), -1);
        }
        for (int farmer : Village.outside(0, 39)) {
            c.due("owes(" + farmer + ", 0)", x.owes(farmer, 0), -1);
        }
        for (int sort = 0; sort < 3; sort++) {
            c.due("owes(5, " + sort + ")", x.owes(5, sort), sort + 1);
            c.due("owes(4, " + sort + ")", x.owes(4, sort), 0);
            c.due("owes(6, " + sort + ")", x.owes(6, sort), 0);
            c.due("owes(0, " + sort + ")", x.owes(0, sort), 0);
            c.due("owes(39, " + sort + ")", x.owes(39, sort), 0);
        }
    }
}
