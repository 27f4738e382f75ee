/** Promises 17 to 20, 28 and 31: vats, what is poured to them and what is taken. */
final class VatTest {
    private static final int PLAIN = Village.PLAIN;
    private static final int SMALL = Village.SMALL;
    private static final int CLEAN = Village.CLEAN;
    private static final int LATE = Village.LATE;

    public static void main(String[] args) {
        Check c = new Check();
        vats(c);
        pours(c);
        poursRefused(c);
        poursByRoom(c);
        poursBySourness(c);
        poursOfNothing(c);
        poursToTapped(c);
        fetches(c);
        fetchesOneTenth(c);
        draws(c);
        held(c);
        heldSourness(c);
        balances(c);
        c.end();
    }

    private static void vats(Check c) {
        c.part("promise 17");
        OilPress x = new OilPress();
        c.due("vat(-1, false, 1)", x.vat(-1, false, 1), -1);
        c.due("vat(3, false, 1)", x.vat(3, false, 1), -1);
        c.due("vat(0, false, 0)", x.vat(0, false, 0), -1);
        c.due("vat(0, true, 50001)", x.vat(0, true, 50001), -1);
        c.due("count(2)", x.count(2), 0);
        c.due("vat(0, false, 1)", x.vat(0, false, 1), 0);
        c.due("vat(2, true, 50000)", x.vat(2, true, 50000), 1);
        Due.held(c, x, 0, "anew", 0, 0, 1, 0, 0, 0, 0, 1);
        Due.held(c, x, 1, "anew", 2, 1, 50000, 0, 0, 0, 0, 1);
        for (int i = 2; i < 12; i++) {
            c.due("vat " + i, x.vat(i % 3, i % 2 == 0, i), i);
        }
        c.due("vat 12", x.vat(0, false, 1), -1);
        c.due("held(12, 2)", x.held(12, 2), -1);
        c.due("held(13, 2)", x.held(13, 2), -1);
        c.due("held(11, 2)", x.held(11, 2), 11);
        c.due("count(2)", x.count(2), 12);
    }

    private static void pours(Check c) {
        c.part("promise 18");
        OilPress x = Village.withGroves();
        x.vat(2, true, 500);
        x.vat(1, false, 500);
        Village.shared(x, 0, 101, Village.sampled(x, SMALL, 0, 100, 100, 30),
                Village.sampled(x, SMALL, 0, 100, 100, 50));
        c.due("count(6)", x.count(6), 101);
        c.due("pour(0, 1)", x.pour(0, 1), 101);
        Due.held(c, x, 1, "poured", 1, 0, 500, 101, 10, 0, 40, 1);
        Due.held(c, x, 0, "another", 2, 1, 500, 0, 0, 0, 0, 1);
        for (int lot = 0; lot < 2; lot++) {
            c.due("told(" + lot + ", 3)", x.told(lot, 3), 6);
            c.due("told(" + lot + ", 7)", x.told(lot, 7), lot == 0 ? 46 : 45);
            c.due("told(" + lot + ", 8)", x.told(lot, 8), lot == 0 ? 46 : 45);
            c.due("told(" + lot + ", 9)", x.told(lot, 9), 1);
        }
        c.due("at(0, 3)", x.at(0, 3), 0);
        c.due("at(0, 4)", x.at(0, 4), 0);
        c.due("poured already", x.pour(0, 1), -1);
        c.due("mill(0, 1, 1)", x.mill(0, 0, 1), true);
        Village.shared(x, 0, 9, Village.sampled(x, PLAIN, 0, 100, 100, 30));
        c.due("pour(0, 1)", x.pour(0, 1), 110);
        Due.held(c, x, 1, "poured two", 1, 0, 500, 110, 10, 0, 431, 11);
    }

    private static void poursRefused(Check c) {
        OilPress x = Village.withGroves();
        x.vat(0, false, 500);
        x.vat(0, true, 500);
        x.vat(1, false, 500);
        x.wash(1);
        x.wait(2);
        c.due("no pressing", x.pour(0, 0), -1);
        int lot = Village.sampled(x, LATE, 0, 100, 100, 30);
        x.put(lot, 0);
        c.due("in the bin only", x.pour(0, 2), -1);
        x.press(0);
        x.wait(2);
        c.due("not told", x.pour(0, 2), -1);
        x.gave(0, 100);
        c.due("not shared", x.pour(0, 2), -1);
        x.share(0);
        c.due("pour(-1, 2)", x.pour(-1, 2), -1);
        c.due("pour(3, 2)", x.pour(3, 2), -1);
        c.due("pour(0, -1)", x.pour(0, -1), -1);
        c.due("pour(0, 3)", x.pour(0, 3), -1);
        c.due("late to fine", x.pour(0, 0), -1);
        c.due("late to clean", x.pour(0, 1), -1);
        c.due("told(0, 3)", x.told(lot, 3), 5);
        c.due("at(0, 4)", x.at(0, 4), 1);
        c.due("held(0, 3)", x.held(0, 3), 0);
        c.due("late to good", x.pour(0, 2), 100);
        Village.shared(x, 1, 100, Village.sampled(x, CLEAN, 0, 100, 100, 30));
        c.due("clean to one that isn't", x.pour(1, 0), -1);
        c.due("clean to clean", x.pour(1, 1), 100);
        Village.shared(x, 1, 100, Village.sampled(x, PLAIN, 0, 100, 100, 30));
        c.due("plain to clean", x.pour(1, 1), -1);
        c.due("plain to fine", x.pour(1, 0), 100);
    }

    private static void poursByRoom(Check c) {
        OilPress x = Village.withGroves();
        x.vat(2, false, 99);
        x.vat(2, false, 100);
        x.vat(2, false, 200);
        Village.shared(x, 0, 100, Village.sampled(x, PLAIN, 0, 100, 100, 30));
        c.due("a tenth too many", x.pour(0, 0), -1);
        c.due("just room", x.pour(0, 1), 100);
        Village.shared(x, 0, 100, Village.sampled(x, PLAIN, 0, 100, 100, 30));
        c.due("full", x.pour(0, 1), -1);
        x.pour(0, 2);
        Village.shared(x, 0, 101, Village.sampled(x, PLAIN, 0, 100, 100, 30));
        c.due("a tenth too many, behind others", x.pour(0, 2), -1);
        Village.shared(x, 1, 100, Village.sampled(x, PLAIN, 0, 100, 100, 30));
        c.due("just room, behind others", x.pour(1, 2), 200);
    }

    private static void poursBySourness(Check c) {
        int[] limits = {80, 200, 999};
        for (int sort = 0; sort < 3; sort++) {
            OilPress x = Village.withGroves();
            x.vat(sort, false, 50000);
            int limit = limits[sort];
            if (sort < 2) {
                Village.shared(x, 1, 100, Village.sampled(x, PLAIN, 0, 100, 100, limit + 1));
                c.due("above the limit of " + sort, x.pour(1, 0), -1);
            }
            Village.shared(x, 0, 100, Village.sampled(x, PLAIN, 0, 100, 100, limit));
            c.due("the limit of " + sort, x.pour(0, 0), 100);
            c.due("held(0, 6)", x.held(0, 6), limit);
            if (sort < 2) {
                c.due("above it by a part", x.pour(1, 0), -1);
                Village.shared(x, 0, 99, Village.sampled(x, PLAIN, 0, 100, 100, limit - 1));
                c.due("below it", x.pour(0, 0), 199);
                c.due("above it by a little", x.pour(1, 0), -1);
                Village.shared(x, 0, 1, Village.sampled(x, PLAIN, 0, 100, 100, limit - 1));
                c.due("below it", x.pour(0, 0), 200);
                c.due("mixed to the limit", x.pour(1, 0), 300);
                c.due("held(0, 6)", x.held(0, 6), limit);
                c.due("held(0, 7)", x.held(0, 7), 1);
            }
        }
    }

    private static void poursOfNothing(Check c) {
        OilPress x = Village.withGroves();
        x.vat(0, false, 100);
        x.vat(0, true, 100);
        Village.shared(x, 0, 0, Village.sampled(x, PLAIN, 0, 100, 100, 999));
        c.due("nothing, to clean", x.pour(0, 1), -1);
        c.due("nothing, sour", x.pour(0, 0), 0);
        Due.held(c, x, 0, "nothing", 0, 0, 100, 0, 0, 0, 0, 1);
        c.due("told(0, 3)", x.told(0, 3), 6);
        c.due("told(0, 9)", x.told(0, 9), 0);
        c.due("fetch(0)", x.fetch(0), -1);
        Village.shared(x, 0, 100, Village.sampled(x, PLAIN, 0, 100, 100, 77));
        c.due("full", x.pour(0, 0), 100);
        Village.shared(x, 0, 0, Village.sampled(x, PLAIN, 0, 100, 100, 999));
        c.due("nothing, to a full one", x.pour(0, 0), 100);
        Due.held(c, x, 0, "nothing to a full one", 0, 0, 100, 100, 10, 0, 77, 1);
        x.fetch(1);
        Village.shared(x, 0, 0, Village.sampled(x, PLAIN, 0, 100, 100, 10));
        c.due("nothing, to a tapped one", x.pour(0, 0), -1);
        Village.shared(x, 1, 0, Village.sampled(x, LATE, 0, 100, 100, 10));
        x.draw(0, 10);
        c.due("late, nothing, to fine", x.pour(1, 0), -1);
        c.due("nothing, to one not tapped", x.pour(0, 0), 0);
    }

    private static void poursToTapped(Check c) {
        OilPress x = Village.withGroves();
        x.vat(2, false, 5000);
        Village.shared(x, 0, 100, Village.sampled(x, PLAIN, 0, 100, 100, 10));
        x.pour(0, 0);
        Village.shared(x, 1, 100, Village.sampled(x, PLAIN, 0, 100, 100, 20));
        x.draw(0, 1);
        c.due("tapped", x.pour(1, 0), -1);
        x.draw(0, 9);
        c.due("tapped still", x.pour(1, 0), -1);
        x.fetch(0);
        Due.held(c, x, 0, "empty", 2, 0, 5000, 0, 0, 0, 0, 1);
        c.due("tapped no more", x.pour(1, 0), 100);
        Due.held(c, x, 0, "filled anew", 2, 0, 5000, 100, 10, 0, 20, 1);
    }

    private static void fetches(Check c) {
        c.part("promise 19");
        OilPress x = Village.withGroves();
        x.vat(2, false, 5000);
        x.vat(1, false, 5000);
        Village.shared(x, 0, 100, Village.sampled(x, SMALL, 0, 100, 100, 10),
                Village.sampled(x, Village.DEBT, 0, 100, 200, 10));
        c.due("not poured", x.fetch(0), -1);
        x.pour(0, 1);
        c.due("fetch(-1)", x.fetch(-1), -1);
        c.due("fetch(2)", x.fetch(2), -1);
        c.due("count(7)", x.count(7), 0);
        c.due("fetch(1)", x.fetch(1), 60);
        Due.held(c, x, 1, "a debt's", 1, 0, 5000, 40, 10, 1, 10, 1);
        c.due("fetch(1), again", x.fetch(1), -1);
        c.due("fetch(0)", x.fetch(0), 30);
        c.due("told(0, 7)", x.told(0, 7), 30);
        c.due("told(0, 8)", x.told(0, 8), 0);
        c.due("count(7)", x.count(7), 90);
        Due.held(c, x, 1, "both", 1, 0, 5000, 10, 10, 1, 10, 1);
        Due.held(c, x, 0, "another", 2, 0, 5000, 0, 0, 0, 0, 1);
    }

    private static void fetchesOneTenth(Check c) {
        OilPress x = Village.withGroves();
        int vat = x.vat(2, false, 10);
        Village.shared(x, 0, 2, Village.sampled(x, SMALL, 0, 1, 100, 7), Village.sampled(x, SMALL, 0, 1, 100, 8));
        c.due("pour(0, 0)", x.pour(0, 0), 2);
        c.due("fetch(0)", x.fetch(0), 1);
        Due.held(c, x, vat, "one tenth in it", 2, 0, 10, 1, 0, 1, 7, 1);
        c.due("fetch(0), again", x.fetch(0), -1);
        c.due("fetch(1)", x.fetch(1), 1);
        Due.held(c, x, vat, "nothing in it", 2, 0, 10, 0, 0, 0, 0, 1);
        Village.shared(x, 0, 1, Village.sampled(x, SMALL, 0, 1, 100, 7));
        x.pour(0, 0);
        Due.held(c, x, vat, "one poured", 2, 0, 10, 1, 0, 0, 7, 1);
    }

    private static void draws(Check c) {
        c.part("promise 20");
        OilPress x = Village.withGroves();
        c.due("no vat", x.draw(0, 1), -1);
        x.vat(1, false, 10);
        int vat = Village.filled(x, 1, 1000, PLAIN);
        c.due("draw(-1, 1)", x.draw(-1, 1), -1);
        c.due("draw(2, 1)", x.draw(2, 1), -1);
        c.due("nothing in it", x.draw(0, 1), -1);
        c.due("draw(1, 0)", x.draw(vat, 0), -1);
        c.due("draw(1, -1)", x.draw(vat, -1), -1);
        c.due("draw(1, 501)", x.draw(vat, 501), -1);
        c.due("count(8)", x.count(8), 0);
        c.due("held(1, 5)", x.held(vat, 5), 0);
        c.due("draw(1, 1)", x.draw(vat, 1), 499);
        Due.held(c, x, vat, "drawn", 1, 0, 50000, 999, 499, 1, 10, 1);
        c.due("draw(1, 499)", x.draw(vat, 499), 0);
        Due.held(c, x, vat, "drawn all", 1, 0, 50000, 500, 0, 1, 10, 1);
        c.due("count(8)", x.count(8), 500);
        c.due("draw(1, 1)", x.draw(vat, 1), -1);
        c.due("the lot's share stays", x.fetch(0), 500);
    }

    private static void held(Check c) {
        c.part("promise 28");
        OilPress x = Village.withGroves();
        int vat = Village.filled(x, 2, 1000, PLAIN);
        Due.held(c, x, vat, "filled", 2, 0, 50000, 1000, 500, 0, 10, 1);
        c.due("held(0, -1)", x.held(0, -1), -1);
        c.due("held(0, 8)", x.held(0, 8), -1);
        c.due("held(-1, 0)", x.held(-1, 0), -1);
        c.due("held(1, 0)", x.held(1, 0), -1);
        x.vat(1, true, 77);
        Due.held(c, x, 1, "empty", 1, 1, 77, 0, 0, 0, 0, 1);
    }

    private static void heldSourness(Check c) {
        OilPress x = Village.withGroves();
        x.vat(2, false, 50000);
        Village.shared(x, 0, 30, Village.sampled(x, SMALL, 0, 100, 100, 0));
        x.pour(0, 0);
        Due.held(c, x, 0, "not sour", 2, 0, 50000, 30, 3, 0, 0, 1);
        Village.shared(x, 0, 60, Village.sampled(x, SMALL, 0, 100, 100, 11));
        x.pour(0, 0);
        Due.held(c, x, 0, "two parts of three", 2, 0, 50000, 90, 9, 0, 22, 3);
        Village.shared(x, 0, 10, Village.sampled(x, SMALL, 0, 100, 100, 10),
                Village.sampled(x, SMALL, 0, 100, 100, 13));
        c.due("the pressing's, cut", x.at(0, 9), 11);
        x.pour(0, 0);
        Due.held(c, x, 0, "with the cut one", 2, 0, 50000, 100, 10, 0, 77, 10);
        x.fetch(1);
        x.draw(0, 3);
        Due.held(c, x, 0, "as oil is taken", 2, 0, 50000, 43, 7, 1, 77, 10);
    }

    private static void balances(Check c) {
        c.part("promise 31");
        OilPress x = Village.withGroves();
        c.due("anew", x.balance(), 0);
        x.vat(0, false, 5000);
        x.put(Village.sampled(x, PLAIN, 0, 100, 100, 10), 0);
        x.press(0);
        c.due("pressing", x.balance(), 0);
        x.wait(2);
        x.gave(0, 100);
        c.due("given", x.balance(), 0);
        x.share(0);
        c.due("shared", x.balance(), 0);
        x.pour(0, 0);
        c.due("poured", x.balance(), 0);
        x.draw(0, 3);
        c.due("drawn", x.balance(), 0);
        x.lend(3, 0, 4);
        c.due("lent", x.balance(), 0);
        x.hand(3, 0, 4);
        c.due("paid by hand", x.balance(), 0);
        x.fetch(0);
        c.due("fetched", x.balance(), 0);
        Due.counts(c, x, "fetched", 3, 1, 1, 0, 2, 0, 100, 90, 3, 4, 0);
        OilPress y = Village.withGroves();
        int vat = Village.filled(y, 0, 1000, PLAIN);
        y.lend(5, vat, 100);
        Village.shared(y, 1, 90, Village.sampled(y, Village.DEBT, 0, 100, 100, 10));
        int other = y.vat(0, false, 5000);
        y.pour(1, other);
        y.pay(1);
        c.due("paid", y.balance(), 0);
    }
}
