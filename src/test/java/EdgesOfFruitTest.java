/** Terms 1 (farmers, groves, lots) and promises 1 to 4 and 6 to 8, bound by bound. */
final class EdgesOfFruitTest {
    private static final int PLAIN = Village.PLAIN;
    private static final int SMALL = Village.SMALL;
    private static final int LATE = Village.LATE;
    private static final int DEBT = Village.DEBT;

    public static void main(String[] args) {
        Check c = new Check();
        nothingHasCome(c);
        farmers(c);
        likes(c);
        grovesAsTheyCome(c);
        sixtyGroves(c);
        kinds(c);
        grovesOfLots(c);
        twoHundredLots(c);
        wishAtFirst(c);
        wishOfEachKind(c);
        wishOfEachState(c);
        noSuchLot(c);
        weighedInState(c);
        eighths(c);
        tenthsAreCut(c);
        placesUsed(c);
        notMeasured(c);
        whichRefusalComesFirst(c);
        sampledInState(c);
        thousandths(c);
        sourness(c);
        toldWhat(c);
        toldOfEachState(c);
        c.end();
    }

    private static void nothingHasCome(Check c) {
        c.part("promise 1: Nothing has come");
        OilPress x = new OilPress();
        for (int what = 0; what <= 10; what++) {
            c.due("count(" + what + ")", x.count(what), what == 5 ? -1 : 0);
            c.due("told(0, " + what + ")", x.told(0, what), -1);
            c.due("held(0, " + what + ")", x.held(0, what), -1);
        }
        c.due("lot of no grove", x.lot(PLAIN, 0), -1);
        c.due("the first grove", x.grove(0, 0), 0);
        c.due("the first lot", x.lot(PLAIN, 0), 0);
        c.due("the first vat", x.vat(0, false, 1), 0);
    }

    private static void farmers(Check c) {
        c.part("terms 1: FARMERS are told by numbers 0 .. 39");
        OilPress x = Village.withGroves();
        int vat = Village.filled(x, 2, 1000, PLAIN);
        for (int farmer : Village.outside(0, 39)) {
            c.due("grove of " + farmer, x.grove(farmer, 0), -1);
            c.due("lend to " + farmer, x.lend(farmer, vat, 1), -1);
            c.due("hand of " + farmer, x.hand(farmer, 2, 1), -1);
            c.due("owes of " + farmer, x.owes(farmer, 2), -1);
        }
        int[] edges = {0, 39};
        for (int i = 0; i < 2; i++) {
            c.due("grove of " + edges[i], x.grove(edges[i], 0), 3 + i);
            c.due("lend to " + edges[i], x.lend(edges[i], vat, 2), 2);
            c.due("hand of " + edges[i], x.hand(edges[i], 2, 1), 1);
            c.due("owes of " + edges[i], x.owes(edges[i], 2), 1);
        }
    }

    private static void likes(Check c) {
        c.part("promise 2: NONE if there is no such LIKE (0 .. 9)");
        OilPress x = new OilPress();
        for (int like : Village.outside(0, 9)) {
            c.due("like " + like, x.grove(0, like), -1);
        }
        c.due("none came", x.count(0), 0);
        for (int like = 0; like <= 9; like++) {
            c.due("like " + like, x.grove(0, like), like);
        }
    }

    private static void grovesAsTheyCome(Check c) {
        c.part("terms 1: GROVES have numbers as they come");
        OilPress x = new OilPress();
        c.due("the first", x.grove(7, 3), 0);
        c.due("one like it", x.grove(7, 3), 1);
        c.due("refused", x.grove(40, 3), -1);
        c.due("none was left out", x.grove(7, 3), 2);
        c.due("count(0)", x.count(0), 3);
    }

    private static void sixtyGroves(Check c) {
        c.part("promise 2: NONE if 60 came");
        OilPress x = new OilPress();
        for (int i = 0; i < 59; i++) {
            x.grove(0, 0);
        }
        c.due("59 came", x.grove(39, 9), 59);
        c.due("60 came", x.grove(39, 9), -1);
        c.due("60 came still", x.grove(0, 0), -1);
        c.due("count(0)", x.count(0), 60);
        c.due("a lot of the last", x.lot(PLAIN, 59), 0);
        c.due("a lot of one that didn't come", x.lot(PLAIN, 60), -1);
    }

    private static void kinds(Check c) {
        c.part("promise 3: NONE if there is no such KIND (0 .. 4)");
        OilPress x = Village.withGroves();
        for (int kind : Village.outside(0, 4)) {
            c.due("kind " + kind, x.lot(kind, 0), -1);
        }
        c.due("none came", x.count(1), 0);
        for (int kind = 0; kind <= 4; kind++) {
            c.due("kind " + kind, x.lot(kind, 0), kind);
            c.due("its kind", x.told(kind, 0), kind);
        }
    }

    private static void grovesOfLots(Check c) {
        c.part("promise 3: NONE if there is no such GROVE");
        OilPress x = Village.withGroves();
        for (int grove : Village.outside(0, 2)) {
            c.due("grove " + grove, x.lot(PLAIN, grove), -1);
        }
        for (int grove = 0; grove <= 2; grove++) {
            c.due("grove " + grove, x.lot(PLAIN, grove), grove);
            c.due("its grove", x.told(grove, 1), grove);
        }
        x.grove(0, 0);
        c.due("grove 3, when it came", x.lot(PLAIN, 3), 3);
    }

    private static void twoHundredLots(Check c) {
        c.part("promise 3: NONE if 200 came");
        OilPress x = Village.withGroves();
        for (int i = 0; i < 199; i++) {
            c.due("lot " + i, x.lot(i % 5, i % 3), i);
        }
        c.due("199 came", x.lot(LATE, 1), 199);
        c.due("200 came", x.lot(LATE, 1), -1);
        c.due("count(1)", x.count(1), 200);
        c.due("the last", x.told(199, 0), LATE);
        c.due("none behind it", x.told(200, 0), -1);
    }

    private static void wishAtFirst(Check c) {
        c.part("terms 1: if that is their wish (it isn't at first); SMALL, DEBT and CLEAN ones always");
        OilPress x = Village.withGroves();
        for (int kind = 0; kind < 5; kind++) {
            x.lot(kind, 0);
            c.due("kind " + kind, x.told(kind, 10), kind == PLAIN || kind == LATE ? 0 : 1);
        }
    }

    private static void wishOfEachKind(Check c) {
        c.part("promise 4: a PLAIN, LATE, SMALL or CLEAN LOT would be pressed WITH others");
        OilPress x = Village.withGroves();
        for (int kind = 0; kind < 5; kind++) {
            boolean asTold = kind == PLAIN || kind == LATE;
            x.lot(kind, 0);
            c.due("with others, kind " + kind, x.wish(kind, true), kind != DEBT);
            c.due("is it, kind " + kind, x.told(kind, 10), 1);
            c.due("alone, kind " + kind, x.wish(kind, false), kind != DEBT);
            c.due("is it, kind " + kind, x.told(kind, 10), asTold ? 0 : 1);
        }
    }

    private static void wishOfEachState(Check c) {
        c.part("promise 4: in STATE 0 to 2");
        for (int kind = 0; kind < 5; kind++) {
            OilPress x = Village.lotOfEachState(kind);
            boolean asTold = kind == PLAIN || kind == LATE;
            for (int lot = 0; lot < 7; lot++) {
                boolean may = kind != DEBT && lot <= 2;
                c.due("kind " + kind + ", state " + lot, x.wish(lot, true), may);
                c.due("told of it", x.told(lot, 10), !asTold || may ? 1 : 0);
            }
        }
    }

    private static void noSuchLot(Check c) {
        c.part("promises 4, 6, 7, 8, 10, 11, 19, 22: no such LOT");
        OilPress x = Village.lotOfEachState(DEBT);
        for (int lot : Village.outside(0, 6)) {
            c.due("wish(" + lot + ", true)", x.wish(lot, true), false);
            c.due("weigh(" + lot + ", 8)", x.weigh(lot, 8), -1);
            c.due("sample(" + lot + ", 100, 10)", x.sample(lot, 100, 10), false);
            c.due("put(" + lot + ", 0)", x.put(lot, 0), -1);
            c.due("take(" + lot + ")", x.take(lot), false);
            c.due("fetch(" + lot + ")", x.fetch(lot), -1);
            c.due("pay(" + lot + ")", x.pay(lot), -1);
            for (int what = -1; what <= 11; what++) {
                c.due("told(" + lot + ", " + what + ")", x.told(lot, what), -1);
            }
        }
        c.due("the least number", x.weigh(0, 8), 10);
        c.due("the greatest number", x.fetch(6), 9);
    }

    private static void weighedInState(Check c) {
        c.part("promise 6: A LOT in STATE 0 is weighed; NONE if it isn't in STATE 0");
        OilPress x = Village.lotOfEachState(PLAIN);
        for (int lot = 6; lot >= 0; lot--) {
            c.due("in state " + lot, x.weigh(lot, 800), lot == 0 ? 1000 : -1);
            c.due("not measured, in state " + lot, x.weigh(lot, -1), -1);
            c.due("its tenths", x.told(lot, 4), lot == 0 ? 1000 : 100);
        }
        c.due("one place used", x.count(5), 0);
    }

    private static void eighths(Check c) {
        c.part("promise 6: eighths of a kilo (1 .. 80000; NONE: it wasn't measured); NONE if no such eighths");
        OilPress x = Village.withGroves();
        x.scale(3);
        for (int lot = 0; lot < 3; lot++) {
            x.lot(PLAIN, 0);
        }
        int[] none = {Integer.MIN_VALUE, -80000, -3, -2, 0, 80001, 80002, Integer.MAX_VALUE};
        for (int n : none) {
            c.due("weigh(0, " + n + ")", x.weigh(0, n), -1);
            c.due("no place used", x.count(5), 3);
            c.due("it stays to be weighed", x.told(0, 3), 0);
        }
        c.due("weigh(0, 1)", x.weigh(0, 1), 1);
        c.due("weigh(1, 80000)", x.weigh(1, 80000), 100000);
        c.due("weigh(2, -1)", x.weigh(2, -1), -3);
        c.due("all places used", x.count(5), 0);
    }

    private static void tenthsAreCut(Check c) {
        c.part("promise 6: It tells its TENTHS, cut");
        int[] eighths = {1, 2, 3, 4, 5, 6, 7, 8, 79993, 79999};
        int[] tenths = {1, 2, 3, 5, 6, 7, 8, 10, 99991, 99998};
        OilPress x = Village.withGroves();
        x.scale(10);
        for (int i = 0; i < eighths.length; i++) {
            x.lot(SMALL, 0);
            c.due(eighths[i] + " eighths", x.weigh(i, eighths[i]), tenths[i]);
            c.due("told of them", x.told(i, 4), tenths[i]);
        }
    }

    private static void placesUsed(Check c) {
        c.part("promise 6: -2 if today has no SCALE, or all its places are used");
        for (int places = 0; places <= 30; places += 15) {
            OilPress x = Village.withGroves();
            for (int i = 0; i <= 30; i++) {
                x.lot(PLAIN, 0);
            }
            c.due("no scale", x.weigh(30, 8), -2);
            x.scale(places);
            for (int i = 0; i < places; i++) {
                c.due("place " + i + " of " + places, x.weigh(i, 8), 10);
            }
            c.due("all " + places + " used", x.weigh(30, 8), -2);
            c.due("all " + places + " used, not measured", x.weigh(30, -1), -2);
            c.due("it stays to be weighed", x.told(30, 3), 0);
            c.due("no place is below none", x.count(5), 0);
            x.wait(10);
            c.due("no scale today", x.weigh(30, 8), -2);
            x.scale(1);
            c.due("weighed at last", x.weigh(30, 8), 10);
        }
    }

    private static void notMeasured(Check c) {
        c.part("promise 6: -3, and the place is used, if it wasn't measured; it stays to be weighed");
        OilPress x = Village.withGroves();
        x.lot(PLAIN, 0);
        x.scale(3);
        c.due("not measured", x.weigh(0, -1), -3);
        c.due("a place used", x.count(5), 2);
        c.due("its state", x.told(0, 3), 0);
        c.due("its tenths", x.told(0, 4), 0);
        c.due("not measured again", x.weigh(0, -1), -3);
        c.due("another place used", x.count(5), 1);
        c.due("it can't be sampled", x.sample(0, 100, 10), false);
        c.due("weighed", x.weigh(0, 8), 10);
        c.due("the last place used", x.count(5), 0);
        c.due("its state", x.told(0, 3), 1);
    }

    private static void whichRefusalComesFirst(Check c) {
        c.part("promise 6: NONE, else -2, else -3");
        OilPress x = Village.withGroves();
        x.lot(PLAIN, 0);
        c.due("no lot, no eighths, no scale", x.weigh(1, 0), -1);
        c.due("no lot, no scale", x.weigh(1, 8), -1);
        c.due("no eighths, no scale", x.weigh(0, 0), -1);
        c.due("not measured, no scale", x.weigh(0, -1), -2);
        x.scale(1);
        c.due("no lot, not measured", x.weigh(1, -1), -1);
        c.due("not measured", x.weigh(0, -1), -3);
        c.due("not measured, all used", x.weigh(0, -1), -2);
        c.due("no eighths, all used", x.weigh(0, 80001), -1);
    }

    private static void sampledInState(Check c) {
        c.part("promise 7: A LOT in STATE 1 is SAMPLED; false if there is none such");
        OilPress x = Village.lotOfEachState(PLAIN);
        for (int lot = 6; lot >= 0; lot--) {
            c.due("in state " + lot, x.sample(lot, 77, 88), lot == 1);
            c.due("its thousandths", x.told(lot, 5), lot == 1 ? 77 : lot == 0 ? 0 : 100);
            c.due("its sourness", x.told(lot, 6), lot == 1 ? 88 : lot == 0 ? 0 : 10);
            c.due("its state", x.told(lot, 3), lot == 1 ? 2 : lot);
        }
    }

    private static void thousandths(Check c) {
        c.part("promise 7: THOUSANDTHS (1 .. 400)");
        sampledBy(c, Village.outside(1, 400), true, false);
        sampledBy(c, new int[] {1, 2, 399, 400}, true, true);
    }

    private static void sourness(Check c) {
        c.part("promise 7: SOURNESS (0 .. 999)");
        sampledBy(c, Village.outside(0, 999), false, false);
        sampledBy(c, new int[] {0, 1, 998, 999}, false, true);
    }

    private static void sampledBy(Check c, int[] numbers, boolean byThousandths, boolean may) {
        for (int n : numbers) {
            OilPress x = Village.withGroves();
            x.lot(PLAIN, 0);
            x.scale(1);
            x.weigh(0, 8);
            c.due("by " + n, byThousandths ? x.sample(0, n, 10) : x.sample(0, 100, n), may);
            c.due("its state", x.told(0, 3), may ? 2 : 1);
            c.due("its number", x.told(0, byThousandths ? 5 : 6), may ? n : 0);
            c.due("its other number", x.told(0, byThousandths ? 6 : 5), !may ? 0 : byThousandths ? 10 : 100);
        }
    }

    private static void toldWhat(Check c) {
        c.part("promise 8: NONE for others");
        OilPress x = Village.lotOfEachState(PLAIN);
        for (int lot = 0; lot < 7; lot++) {
            for (int what : Village.outside(0, 10)) {
                c.due("told(" + lot + ", " + what + ")", x.told(lot, what), -1);
            }
        }
    }

    private static void toldOfEachState(Check c) {
        c.part("promise 8: (NONE); (4 to 8: 0, as long as there is none.)");
        OilPress x = Village.lotOfEachState(PLAIN);
        int[][] rows = {
            {0, 0, 0, 0, 0, 0, 0, 0, 0, -1, 0}, {0, 0, 0, 1, 100, 0, 0, 0, 0, -1, 0},
            {0, 0, 0, 2, 100, 100, 10, 0, 0, -1, 0}, {0, 0, 0, 3, 100, 100, 10, 0, 0, 0, 0},
            {0, 0, 0, 4, 100, 100, 10, 0, 0, 1, 0}, {0, 0, 0, 5, 100, 100, 10, 9, 0, 2, 0},
            {0, 0, 0, 6, 100, 100, 10, 9, 9, 0, 0}};
        for (int lot = 0; lot < 7; lot++) {
            Due.told(c, x, lot, "in state " + lot, rows[lot]);
        }
        x.take(3);
        c.due("out of the bin", x.told(3, 9), -1);
        x.fetch(6);
        c.due("nothing is LEFT", x.told(6, 8), 0);
        c.due("its SHARE stays", x.told(6, 7), 9);
    }
}
