/** Promises 21 to 24: oil is lent and paid back. */
final class DebtTest {
    private static final int DEBT = Village.DEBT;
    private static final int PLAIN = Village.PLAIN;

    public static void main(String[] args) {
        Check c = new Check();
        lends(c);
        pays(c);
        paysInPart(c);
        paysRefused(c);
        hands(c);
        handsOfFiner(c);
        handsTold(c);
        owes(c);
        c.end();
    }

    private static void lends(Check c) {
        c.part("promise 21");
        OilPress x = Village.withGroves();
        c.due("no vat", x.lend(0, 0, 1), -1);
        int vat = Village.filled(x, 1, 1000, PLAIN);
        c.due("lend(-1, 0, 1)", x.lend(-1, vat, 1), -1);
        c.due("lend(40, 0, 1)", x.lend(40, vat, 1), -1);
        c.due("lend(0, -1, 1)", x.lend(0, -1, 1), -1);
        c.due("lend(0, 1, 1)", x.lend(0, 1, 1), -1);
        c.due("lend(0, 0, 0)", x.lend(0, vat, 0), -1);
        c.due("lend(0, 0, -1)", x.lend(0, vat, -1), -1);
        c.due("lend(0, 0, 501)", x.lend(0, vat, 501), -1);
        c.due("held(0, 5)", x.held(vat, 5), 0);
        c.due("count(9)", x.count(9), 0);
        c.due("owes(0, 1)", x.owes(0, 1), 0);
        c.due("lend(0, 0, 100)", x.lend(0, vat, 100), 100);
        c.due("held(0, 3)", x.held(vat, 3), 900);
        c.due("held(0, 4)", x.held(vat, 4), 400);
        c.due("held(0, 5)", x.held(vat, 5), 1);
        c.due("lend(0, 0, 50)", x.lend(0, vat, 50), 150);
        c.due("lend(39, 0, 1)", x.lend(39, vat, 1), 1);
        c.due("owes(0, 0)", x.owes(0, 0), 0);
        c.due("owes(0, 1)", x.owes(0, 1), 150);
        c.due("owes(0, 2)", x.owes(0, 2), 0);
        c.due("owes(39, 1)", x.owes(39, 1), 1);
        c.due("count(9)", x.count(9), 151);
        c.due("lend(0, 0, 349)", x.lend(0, vat, 349), 499);
        c.due("nothing left", x.lend(0, vat, 1), -1);
        x.fetch(0);
        c.due("empty", x.held(vat, 5), 0);
        c.due("draw(0, 1)", x.draw(vat, 1), -1);
    }

    /** Farmer 5, of grove 0, owes 100 of sorts 0, 1 and 2. */
    private static OilPress owing() {
        OilPress x = Village.withGroves();
        for (int sort = 0; sort < 3; sort++) {
            x.lend(5, Village.filled(x, sort, 1000, PLAIN), 100);
        }
        return x;
    }

    /** A debt's lot of a grove poured to a vat of its own: its share is what is given. */
    private static int debtsLot(OilPress x, int grove, int sort, int given) {
        x.keep(0);
        int lot = Village.sampled(x, DEBT, grove, 1000, 100, 10);
        Village.shared(x, 2, given, lot);
        x.pour(2, x.vat(sort, false, 50000));
        return lot;
    }

    private static void pays(Check c) {
        c.part("promise 22");
        OilPress x = owing();
        int lot = debtsLot(x, 0, 0, 1000);
        int vat = x.told(lot, 9);
        c.due("pay, fine", x.pay(lot), 100 + 91 + 84);
        Due.owes(c, x, 5, "fine", 0, 0, 0);
        c.due("left", x.told(lot, 8), 725);
        c.due("share", x.told(lot, 7), 1000);
        c.due("the press's", x.held(vat, 4), 275);
        c.due("in the vat", x.held(vat, 3), 1000);
        c.due("not tapped", x.held(vat, 5), 0);
        c.due("nothing owed", x.pay(lot), 0);
        c.due("left", x.told(lot, 8), 725);
        c.due("fetch", x.fetch(lot), 725);
        c.due("nothing left", x.pay(lot), -1);
        c.due("draw", x.draw(vat, 275), 0);
        c.due("balance()", x.balance(), 0);
        OilPress y = owing();
        c.due("pay, good", y.pay(debtsLot(y, 0, 1, 1000)), 100 + 91);
        Due.owes(c, y, 5, "good", 100, 0, 0);
        OilPress z = owing();
        c.due("pay, for lamps", z.pay(debtsLot(z, 0, 2, 1000)), 100);
        Due.owes(c, z, 5, "for lamps", 100, 100, 0);
    }

    private static void paysInPart(Check c) {
        OilPress x = owing();
        c.due("pay 30", x.pay(debtsLot(x, 0, 0, 30)), 30);
        Due.owes(c, x, 5, "30 fine", 70, 100, 100);
        int lot = debtsLot(x, 0, 0, 79);
        c.due("pay 79", x.pay(lot), 79);
        Due.owes(c, x, 5, "79 fine", 0, 91, 100);
        c.due("told(8)", x.told(lot, 8), 0);
        c.due("nothing left", x.pay(lot), -1);
        c.due("nothing left", x.fetch(lot), -1);
        c.due("pay 10", x.pay(debtsLot(x, 0, 0, 10)), 10);
        Due.owes(c, x, 5, "10 fine", 0, 80, 100);
        c.due("pay by another's lot", x.pay(debtsLot(x, 1, 0, 10)), 0);
        Due.owes(c, x, 5, "another's", 0, 80, 100);
        int one = debtsLot(x, 0, 1, 1);
        c.due("pay 1", x.pay(one), 1);
        Due.owes(c, x, 5, "1 good", 0, 79, 100);
        c.due("nothing left of 1", x.pay(one), -1);
        OilPress y = owing();
        y.hand(5, 0, 100);
        int whole = debtsLot(y, 0, 0, 91);
        c.due("pay 91", y.pay(whole), 91);
        Due.owes(c, y, 5, "just the good", 0, 0, 100);
    }

    private static void paysRefused(Check c) {
        OilPress x = owing();
        c.due("pay(-1)", x.pay(-1), -1);
        c.due("pay(3)", x.pay(3), -1);
        c.due("a plain one", x.pay(0), -1);
        int lot = Village.sampled(x, DEBT, 0, 1000, 100, 10);
        c.due("sampled", x.pay(lot), -1);
        Village.shared(x, 2, 1000, lot);
        c.due("shared", x.pay(lot), -1);
        Due.owes(c, x, 5, "as it was", 100, 100, 100);
        int small = Village.sampled(x, Village.SMALL, 0, 1000, 100, 10);
        x.pour(2, x.vat(0, false, 5000));
        Village.shared(x, 2, 1000, small);
        x.pour(2, x.vat(0, false, 5000));
        c.due("a small one", x.pay(small), -1);
        Due.owes(c, x, 5, "as it was", 100, 100, 100);
    }

    private static void hands(Check c) {
        c.part("promise 23");
        OilPress x = owing();
        c.due("hand(-1, 0, 1)", x.hand(-1, 0, 1), -1);
        c.due("hand(40, 0, 1)", x.hand(40, 0, 1), -1);
        c.due("hand(5, -1, 1)", x.hand(5, -1, 1), -1);
        c.due("hand(5, 3, 1)", x.hand(5, 3, 1), -1);
        c.due("hand(5, 0, -1)", x.hand(5, 0, -1), -1);
        c.due("hand(5, 0, 50001)", x.hand(5, 0, 50001), -1);
        Due.owes(c, x, 5, "as it was", 100, 100, 100);
        c.due("hand(5, 0, 0)", x.hand(5, 0, 0), 0);
        c.due("hand(6, 0, 100)", x.hand(6, 0, 100), 0);
        Due.owes(c, x, 5, "as it was", 100, 100, 100);
        c.due("hand(5, 2, 99)", x.hand(5, 2, 99), 99);
        Due.owes(c, x, 5, "for lamps", 100, 100, 1);
        c.due("hand(5, 2, 99)", x.hand(5, 2, 99), 1);
        Due.owes(c, x, 5, "for lamps", 100, 100, 0);
        c.due("hand(5, 1, 50000)", x.hand(5, 1, 50000), 100);
        Due.owes(c, x, 5, "good", 100, 0, 0);
        c.due("hand(5, 0, 50000)", x.hand(5, 0, 50000), 100);
        Due.owes(c, x, 5, "fine", 0, 0, 0);
        c.due("to no vat", x.held(0, 3) + x.held(1, 3) + x.held(2, 3), 2700);
        c.due("the press's", x.held(0, 4), 400);
    }

    private static void handsOfFiner(Check c) {
        int[][] rows = {
            // sort, of sort, owed, by hand, taken, owed then
            {0, 1, 1, 1, 1, 0}, {0, 1, 10, 9, 9, 1}, {0, 1, 10, 10, 10, 0}, {0, 1, 11, 50, 10, 0},
            {0, 1, 12, 50, 11, 0}, {0, 1, 100, 90, 90, 1}, {0, 1, 110, 100, 100, 0}, {0, 1, 21, 19, 19, 1},
            {0, 2, 1, 1, 1, 0}, {0, 2, 6, 5, 5, 0}, {0, 2, 7, 5, 5, 1}, {0, 2, 7, 6, 6, 0},
            {0, 2, 100, 83, 83, 1}, {0, 2, 100, 84, 84, 0}, {0, 2, 100, 500, 84, 0}, {1, 2, 100, 500, 91, 0},
            {1, 2, 10, 10, 10, 0}, {2, 2, 10, 9, 9, 1}, {1, 0, 10, 10, 0, 10}, {2, 1, 10, 10, 0, 10}};
        for (int[] row : rows) {
            OilPress x = Village.withGroves();
            x.lend(9, Village.filled(x, row[1], 1000, PLAIN), row[2]);
            String call = "owed " + row[2] + " of " + row[1] + ", hand(9, " + row[0] + ", " + row[3] + ")";
            c.due(call, x.hand(9, row[0], row[3]), row[4]);
            c.due(call + ", owes", x.owes(9, row[1]), row[5]);
        }
    }

    private static void handsTold(Check c) {
        OilPress x = owing();
        c.due("hand(5, 0, 150)", x.hand(5, 0, 150), 150);
        Due.owes(c, x, 5, "50 of it to the good", 0, 45, 100);
        c.due("hand(5, 1, 46)", x.hand(5, 1, 46), 46);
        Due.owes(c, x, 5, "one of it for lamps", 0, 0, 99);
        c.due("hand(5, 0, 200)", x.hand(5, 0, 200), 83);
        Due.owes(c, x, 5, "all", 0, 0, 0);
    }

    private static void owes(Check c) {
        c.part("promise 24");
        OilPress x = owing();
        c.due("owes(-1, 0)", x.owes(-1, 0), -1);
        c.due("owes(40, 0)", x.owes(40, 0), -1);
        c.due("owes(0, -1)", x.owes(0, -1), -1);
        c.due("owes(0, 3)", x.owes(0, 3), -1);
        c.due("owes(0, 0)", x.owes(0, 0), 0);
        c.due("owes(39, 2)", x.owes(39, 2), 0);
        Due.owes(c, x, 5, "lent", 100, 100, 100);
    }
}
