import java.util.function.Supplier;
import java.util.function.ToIntFunction;

/**
 * "What is refused changes nothing": of two objects made alike one gets a call that is refused; then both tell the
 * same, and answer the same calls alike. TwinTest does so by runs of chosen calls.
 */
final class RefusedTest {
    private static final int PLAIN = Village.PLAIN;
    private static final int SMALL = Village.SMALL;
    private static final int CLEAN = Village.CLEAN;
    private static final int LATE = Village.LATE;
    private static final int DEBT = Village.DEBT;

    private final Check c = new Check();
    private Supplier<OilPress> made;

    public static void main(String[] args) {
        RefusedTest t = new RefusedTest();
        t.groves();
        t.lots();
        t.wishes();
        t.scales();
        t.weighings();
        t.samples();
        t.mills();
        t.puts();
        t.putsThatDoNotAgree();
        t.takes();
        t.washes();
        t.presses();
        t.gaves();
        t.shares();
        t.keeps();
        t.vats();
        t.pours();
        t.fetches();
        t.draws();
        t.lends();
        t.pays();
        t.hands();
        t.waits();
        t.freshes();
        t.plans();
        t.questions();
        t.c.end();
    }

    private void part(String name, Supplier<OilPress> from) {
        c.part(name + ": what is refused changes nothing");
        made = from;
    }

    private void refused(String call, ToIntFunction<OilPress> ask, int want) {
        OilPress x = made.get();
        c.due(call, ask.applyAsInt(x), want);
        c.due(call + ", what is told stays", Sight.of(x).equals(Sight.of(made.get())), true);
        OilPress y = made.get();
        ask.applyAsInt(y);
        c.due(call + ", what comes stays", Sight.afterwards(y).equals(Sight.afterwards(made.get())), true);
    }

    private void no(String call, ToIntFunction<OilPress> ask) {
        refused(call, ask, -1);
    }

    private interface Telling {
        boolean of(OilPress x);
    }

    private void isFalse(String call, Telling ask) {
        refused(call, x -> Sight.asNumber(ask.of(x)), 0);
    }

    /**
     * Lots 0 to 6 are in those states; 7 is plain, 8 clean, 10 late, all in state 2; 9 a debt in state 0. Mill 0 has
     * lot 3 in its bin, mill 1 is pressing and not told, mill 2 shared. Vat 0 is tapped, vat 1 small, vat 2 clean.
     */
    private static OilPress village(int kind) {
        OilPress x = Village.lotOfEachState(kind);
        Village.sampled(x, PLAIN, 0, 10, 100, 10);
        Village.sampled(x, CLEAN, 2, 10, 100, 10);
        x.lot(DEBT, 0);
        Village.sampled(x, LATE, 1, 10, 100, 10);
        x.vat(0, false, 9);
        x.vat(1, true, 500);
        x.lend(5, 0, 1);
        x.keep(20);
        x.fresh(2);
        x.plan(0);
        x.wish(2, true);
        return x;
    }

    private static OilPress village() {
        return village(SMALL);
    }

    private void groves() {
        part("promise 2", RefusedTest::village);
        for (int n : Village.outside(0, 39)) {
            no("grove(" + n + ", 0)", x -> x.grove(n, 0));
        }
        for (int n : Village.outside(0, 9)) {
            no("grove(0, " + n + ")", x -> x.grove(0, n));
        }
        made = () -> {
            OilPress x = village();
            for (int i = 3; i < 60; i++) {
                x.grove(0, 0);
            }
            return x;
        };
        no("the 61st", x -> x.grove(0, 0));
    }

    private void lots() {
        part("promise 3", RefusedTest::village);
        for (int n : Village.outside(0, 4)) {
            no("lot(" + n + ", 0)", x -> x.lot(n, 0));
        }
        for (int n : Village.outside(0, 2)) {
            no("lot(0, " + n + ")", x -> x.lot(0, n));
        }
        made = () -> {
            OilPress x = Village.withGroves();
            for (int i = 0; i < 200; i++) {
                x.lot(i % 5, 0);
            }
            return x;
        };
        no("the 201st", x -> x.lot(0, 0));
    }

    private void wishes() {
        for (int kind = 0; kind < 5; kind++) {
            int of = kind;
            part("promise 4, kind " + kind, () -> village(of));
            for (int n : Village.outside(0, 10)) {
                isFalse("wish(" + n + ", true)", x -> x.wish(n, true));
            }
            for (int lot = kind == DEBT ? 0 : 3; lot < 7; lot++) {
                int its = lot;
                isFalse("with others, in state " + lot, x -> x.wish(its, true));
                isFalse("alone, in state " + lot, x -> x.wish(its, false));
            }
            isFalse("a debt", x -> x.wish(9, true));
        }
        part("promise 4, a wish that was", () -> {
            OilPress x = Village.withGroves();
            int[] kinds = {PLAIN, SMALL, LATE};
            for (int mill = 0; mill < 3; mill++) {
                x.put(Village.withOthers(x, kinds[mill], 0, 10, 100, 10), mill);
            }
            return x;
        });
        for (int lot = 0; lot < 3; lot++) {
            int its = lot;
            isFalse("in the bin, wish(" + lot + ", false)", x -> x.wish(its, false));
        }
    }

    private void scales() {
        part("promise 5", RefusedTest::village);
        for (int n : Village.outside(0, 30)) {
            isFalse("scale(" + n + ")", x -> x.scale(n));
        }
        part("promise 5, a place left", () -> Village.lotOfEachState(SMALL));
        for (int n : Village.outside(0, 30)) {
            isFalse("scale(" + n + ")", x -> x.scale(n));
        }
    }

    private void weighings() {
        part("promise 6", () -> Village.lotOfEachState(SMALL));
        for (int n : Village.outside(0, 6)) {
            no("weigh(" + n + ", 8)", x -> x.weigh(n, 8));
            no("weigh(" + n + ", -1)", x -> x.weigh(n, -1));
        }
        int[] eighths = {Integer.MIN_VALUE, -2, 0, 80001, Integer.MAX_VALUE};
        for (int n : eighths) {
            no("weigh(0, " + n + ")", x -> x.weigh(0, n));
        }
        for (int lot = 1; lot < 7; lot++) {
            int its = lot;
            no("in state " + lot, x -> x.weigh(its, 800));
            no("not measured, in state " + lot, x -> x.weigh(its, -1));
        }
        part("promise 6, all places used", RefusedTest::village);
        refused("weigh(0, 8)", x -> x.weigh(0, 8), -2);
        refused("weigh(0, -1)", x -> x.weigh(0, -1), -2);
        part("promise 6, no scale", () -> {
            OilPress x = village();
            x.wait(10);
            return x;
        });
        refused("weigh(0, 8)", x -> x.weigh(0, 8), -2);
        refused("weigh(0, -1)", x -> x.weigh(0, -1), -2);
    }

    private void samples() {
        part("promise 7", RefusedTest::village);
        for (int n : Village.outside(0, 10)) {
            isFalse("sample(" + n + ", 100, 10)", x -> x.sample(n, 100, 10));
        }
        for (int n : Village.outside(1, 400)) {
            isFalse("sample(1, " + n + ", 10)", x -> x.sample(1, n, 10));
        }
        for (int n : Village.outside(0, 999)) {
            isFalse("sample(1, 100, " + n + ")", x -> x.sample(1, 100, n));
        }
        for (int lot = 0; lot < 7; lot++) {
            int its = lot;
            if (lot != 1) {
                isFalse("in state " + lot, x -> x.sample(its, 77, 88));
            }
        }
    }

    private void mills() {
        part("promise 9", RefusedTest::village);
        for (int n : Village.outside(-1, 3)) {
            isFalse("mill(" + n + ", 7, 7)", x -> x.mill(n, 7, 7));
        }
        for (int mill = -1; mill <= 3; mill++) {
            int its = mill;
            isFalse("with lots or none such, mill(" + mill + ", 7, 7)", x -> x.mill(its, 7, 7));
        }
        part("promise 9, an empty bin", Village::withGroves);
        for (int n : Village.outside(0, 20000)) {
            isFalse("mill(0, " + n + ", 7)", x -> x.mill(0, n, 7));
        }
        for (int n : Village.outside(1, 5000)) {
            isFalse("mill(0, 7, " + n + ")", x -> x.mill(0, 7, n));
        }
    }

    private void puts() {
        part("promise 10", RefusedTest::village);
        for (int n : Village.outside(0, 10)) {
            no("put(" + n + ", 0)", x -> x.put(n, 0));
        }
        for (int n : Village.outside(0, 2)) {
            no("put(2, " + n + ")", x -> x.put(2, n));
        }
        for (int lot = 0; lot < 7; lot++) {
            int its = lot;
            if (lot != 2) {
                no("in state " + lot, x -> x.put(its, 0));
            }
        }
        no("to one that is pressing", x -> x.put(2, 1));
        no("to one that is shared", x -> x.put(2, 2));
        part("promise 10, a full bin", () -> {
            OilPress x = Village.withGroves();
            for (int lot = 0; lot < 13; lot++) {
                Village.sampled(x, SMALL, 0, 10, 100, 10);
                if (lot > 0) {
                    x.put(lot, 1);
                }
            }
            return x;
        });
        no("the 13th", x -> x.put(0, 1));
    }

    private void putsThatDoNotAgree() {
        part("promise 10", RefusedTest::village);
        no("a plain one to a small one", x -> x.put(7, 0));
        no("a clean one to a small one", x -> x.put(8, 0));
        no("a late one to a small one", x -> x.put(10, 0));
        part("promise 10, clean", () -> village(CLEAN));
        no("a clean one of another like", x -> x.put(8, 0));
        no("a plain one to a clean one", x -> x.put(7, 0));
        part("promise 10, none in it", () -> {
            OilPress x = Village.withGroves();
            Village.sampled(x, CLEAN, 0, 10, 100, 10);
            return x;
        });
        no("not washed", x -> x.put(0, 0));
        part("promise 10, four days apart", () -> {
            OilPress x = Village.withGroves();
            x.put(Village.sampled(x, SMALL, 0, 10, 100, 10), 0);
            x.wait(40);
            Village.sampled(x, SMALL, 0, 10, 100, 10);
            return x;
        });
        no("a small one to a small one", x -> x.put(1, 0));
    }

    private void takes() {
        for (int kind = 0; kind < 5; kind++) {
            int of = kind;
            part("promise 11, kind " + kind, () -> village(of));
            for (int n : Village.outside(0, 10)) {
                isFalse("take(" + n + ")", x -> x.take(n));
            }
            for (int lot = 0; lot < 7; lot++) {
                int its = lot;
                if (lot != 3) {
                    isFalse("in state " + lot, x -> x.take(its));
                }
            }
        }
    }

    private void washes() {
        part("promise 12", RefusedTest::village);
        for (int n : Village.outside(0, 2)) {
            isFalse("wash(" + n + ")", x -> x.wash(n));
        }
        isFalse("a lot in the bin", x -> x.wash(0));
        isFalse("pressing", x -> x.wash(1));
        isFalse("shared", x -> x.wash(2));
        part("promise 12, busy", () -> {
            OilPress x = Village.withGroves();
            x.wash(0);
            x.wait(1);
            return x;
        });
        isFalse("washing", x -> x.wash(0));
    }

    private void presses() {
        part("promise 13", RefusedTest::village);
        for (int n : Village.outside(0, 2)) {
            no("press(" + n + ")", x -> x.press(n));
        }
        no("pressing", x -> x.press(1));
        no("shared", x -> x.press(2));
        part("promise 13, below the least", () -> {
            OilPress x = Village.withGroves();
            x.wash(0);
            x.wash(1);
            x.put(Village.sampled(x, SMALL, 0, 99, 100, 10), 0);
            x.put(Village.sampled(x, CLEAN, 0, 99, 100, 10), 1);
            x.wait(1);
            return x;
        });
        no("busy and below the least", x -> x.press(0));
        no("busy", x -> x.press(1));
        no("no lots", x -> x.press(2));
        Supplier<OilPress> busy = made;
        made = () -> {
            OilPress x = busy.get();
            x.wait(1);
            return x;
        };
        no("below the least", x -> x.press(0));
    }

    private void gaves() {
        part("promise 14", RefusedTest::village);
        for (int n : Village.outside(0, 2)) {
            isFalse("gave(" + n + ", 5)", x -> x.gave(n, 5));
        }
        for (int n : Village.outside(0, 100)) {
            isFalse("gave(1, " + n + ")", x -> x.gave(1, n));
        }
        isFalse("not pressing", x -> x.gave(0, 5));
        isFalse("told already", x -> x.gave(2, 5));
        part("promise 14, busy", () -> {
            OilPress x = Village.withGroves();
            x.put(Village.sampled(x, PLAIN, 0, 100, 100, 10), 0);
            x.press(0);
            x.wait(1);
            return x;
        });
        isFalse("busy", x -> x.gave(0, 5));
        isFalse("no lots", x -> x.gave(1, 0));
        part("promise 14, told", () -> {
            OilPress x = village();
            x.gave(1, 0);
            return x;
        });
        isFalse("told already", x -> x.gave(1, 5));
    }

    private void shares() {
        part("promise 15", RefusedTest::village);
        for (int n : Village.outside(0, 2)) {
            no("share(" + n + ")", x -> x.share(n));
        }
        no("not pressing", x -> x.share(0));
        no("not told", x -> x.share(1));
        no("shared already", x -> x.share(2));
    }

    private void keeps() {
        part("promise 16", RefusedTest::village);
        for (int n : Village.outside(0, 50)) {
            isFalse("keep(" + n + ")", x -> x.keep(n));
        }
    }

    private void vats() {
        part("promise 17", RefusedTest::village);
        for (int n : Village.outside(0, 2)) {
            no("vat(" + n + ", false, 1)", x -> x.vat(n, false, 1));
        }
        for (int n : Village.outside(1, 50000)) {
            no("vat(0, true, " + n + ")", x -> x.vat(0, true, n));
        }
        made = () -> {
            OilPress x = village();
            for (int vat = 3; vat < 12; vat++) {
                x.vat(0, false, 1);
            }
            return x;
        };
        no("the 13th", x -> x.vat(0, false, 1));
    }

    private void pours() {
        part("promise 18", RefusedTest::village);
        for (int n : Village.outside(0, 2)) {
            no("pour(" + n + ", 0)", x -> x.pour(n, 0));
            no("pour(2, " + n + ")", x -> x.pour(2, n));
        }
        no("not pressing", x -> x.pour(0, 1));
        no("not told", x -> x.pour(1, 1));
        no("tapped", x -> x.pour(2, 0));
        no("no room", x -> x.pour(2, 1));
        no("to a clean one", x -> x.pour(2, 2));
        part("promise 18, told", () -> {
            OilPress x = village();
            x.gave(1, 5);
            return x;
        });
        no("not shared", x -> x.pour(1, 1));
        for (int sort = 0; sort < 2; sort++) {
            int of = sort;
            part("promise 18, sourness", () -> {
                OilPress x = Village.withGroves();
                x.vat(of, false, 500);
                x.vat(0, false, 500);
                Village.shared(x, 0, 100, Village.sampled(x, PLAIN, 0, 10, 100, of == 0 ? 80 : 200));
                x.pour(0, 0);
                Village.shared(x, 0, 7, Village.sampled(x, PLAIN, 0, 10, 100, of == 0 ? 81 : 201));
                Village.shared(x, 1, 7, Village.sampled(x, LATE, 0, 10, 100, 0));
                return x;
            });
            no("above by a part, sort " + sort, x -> x.pour(0, 0));
            no("late to fine", x -> x.pour(1, 1));
        }
    }

    private void fetches() {
        part("promise 19", RefusedTest::village);
        for (int n : Village.outside(0, 10)) {
            no("fetch(" + n + ")", x -> x.fetch(n));
        }
        for (int lot = 0; lot < 6; lot++) {
            int its = lot;
            no("in state " + lot, x -> x.fetch(its));
        }
        part("promise 19, nothing is left", () -> {
            OilPress x = village();
            x.fetch(6);
            return x;
        });
        no("fetched already", x -> x.fetch(6));
    }

    /** Vat 0 has oil, twenty tenths of it the press's; vat 1 has none. */
    private static OilPress withOil() {
        OilPress x = Village.withGroves();
        x.keep(20);
        x.vat(1, false, 500);
        x.vat(1, false, 500);
        Village.shared(x, 0, 100, Village.sampled(x, DEBT, 0, 10, 100, 10));
        x.pour(0, 0);
        return x;
    }

    private void draws() {
        part("promise 20", RefusedTest::withOil);
        for (int n : Village.outside(0, 1)) {
            no("draw(" + n + ", 1)", x -> x.draw(n, 1));
        }
        for (int n : Village.outside(1, 20)) {
            no("draw(0, " + n + ")", x -> x.draw(0, n));
        }
        no("nothing in it", x -> x.draw(1, 1));
        no("no tenths", x -> x.draw(1, 0));
    }

    private void lends() {
        part("promise 21", RefusedTest::withOil);
        for (int n : Village.outside(0, 39)) {
            no("lend(" + n + ", 0, 1)", x -> x.lend(n, 0, 1));
        }
        for (int n : Village.outside(0, 1)) {
            no("lend(5, " + n + ", 1)", x -> x.lend(5, n, 1));
        }
        for (int n : Village.outside(1, 20)) {
            no("lend(5, 0, " + n + ")", x -> x.lend(5, 0, n));
        }
        no("nothing in it", x -> x.lend(5, 1, 1));
    }

    private void pays() {
        part("promise 22", RefusedTest::village);
        for (int n : Village.outside(0, 10)) {
            no("pay(" + n + ")", x -> x.pay(n));
        }
        no("a small one", x -> x.pay(6));
        part("promise 22, debts", () -> village(DEBT));
        for (int lot = 0; lot < 6; lot++) {
            int its = lot;
            no("in state " + lot, x -> x.pay(its));
        }
        part("promise 22, nothing is left", () -> {
            OilPress x = village(DEBT);
            x.fetch(6);
            return x;
        });
        no("fetched already", x -> x.pay(6));
        part("promise 22, other kinds", () -> village(PLAIN));
        no("a plain one", x -> x.pay(6));
    }

    private void hands() {
        part("promise 23", RefusedTest::village);
        for (int n : Village.outside(0, 39)) {
            no("hand(" + n + ", 2, 1)", x -> x.hand(n, 2, 1));
        }
        for (int n : Village.outside(0, 2)) {
            no("hand(5, " + n + ", 1)", x -> x.hand(5, n, 1));
        }
        for (int n : Village.outside(0, 50000)) {
            no("hand(5, 2, " + n + ")", x -> x.hand(5, 2, n));
        }
    }

    private void waits() {
        part("promise 25", RefusedTest::village);
        for (int n : Village.outside(0, 100)) {
            no("wait(" + n + ")", x -> x.wait(n));
        }
    }

    private void freshes() {
        part("promise 26", RefusedTest::village);
        for (int n : Village.outside(0, 10)) {
            isFalse("fresh(" + n + ")", x -> x.fresh(n));
        }
    }

    private void plans() {
        part("promise 29", RefusedTest::village);
        for (int n : Village.outside(0, 2)) {
            no("plan(" + n + ")", x -> x.plan(n));
        }
        part("promise 29, more than 8", () -> {
            OilPress x = Village.withGroves();
            x.plan(0);
            for (int lot = 0; lot < 9; lot++) {
                Village.sampled(x, PLAIN, 0, 10, 100, 10);
                if (lot == 5) {
                    x.plan(0);
                }
            }
            return x;
        });
        no("nine", x -> x.plan(0));
        no("nine, another mill", x -> x.plan(1));
    }

    private void questions() {
        part("promises 8, 24, 27, 28, 30, 32", RefusedTest::village);
        for (int n : Village.outside(0, 10)) {
            no("told(6, " + n + ")", x -> x.told(6, n));
            no("told(" + n + ", 0)", x -> x.told(n, 0));
            no("at(0, " + n + ")", x -> x.at(0, n));
            no("count(" + n + ")", x -> x.count(n));
            no("held(0, " + n + ")", x -> x.held(0, n));
            no("held(" + n + ", 0)", x -> x.held(n, 0));
            no("owes(5, " + n + ")", x -> x.owes(5, n));
        }
        no("planned(-3)", x -> x.planned(-3));
        no("planned(8)", x -> x.planned(8));
    }
}
