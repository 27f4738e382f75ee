import java.util.ArrayList;
import java.util.List;

/** What an object tells, so that two objects can be compared. */
final class Sight {
    private static final int MOST_LOTS = 12;
    private static final int[] FARMERS = {0, 5, 6, 7, 39};

    private Sight() {
    }

    /** All that can be asked (of the first twelve lots and of some farmers). */
    static List<Integer> of(OilPress x) {
        List<Integer> told = new ArrayList<>();
        int lots = Math.min(MOST_LOTS, x.count(1));
        int vats = Math.min(4, x.count(2));
        for (int what = 0; what <= 10; what++) {
            told.add(x.count(what));
            for (int lot = 0; lot < lots; lot++) {
                told.add(x.told(lot, what));
            }
            for (int mill = 0; mill < 3; mill++) {
                told.add(x.at(mill, what));
            }
            for (int vat = 0; vat < vats; vat++) {
                told.add(x.held(vat, what));
            }
            told.add(x.planned(what - 2));
        }
        for (int farmer : FARMERS) {
            for (int sort = 0; sort < 3; sort++) {
                told.add(x.owes(farmer, sort));
            }
        }
        told.add(x.balance());
        return told;
    }

    /** What some calls answer: they show what can't be asked (wishes, FRESH, what the press keeps, LOTS of PLANS). */
    static List<Integer> afterwards(OilPress x) {
        List<Integer> told = new ArrayList<>();
        for (int mill = 0; mill < 3; mill++) {
            told.add(x.plan(mill));
            told.add(x.planned(-2));
            told.add(asNumber(x.gave(mill, 7)));
            told.add(x.share(mill));
            for (int vat = 0; vat < 4; vat++) {
                told.add(x.pour(mill, vat));
                told.add(x.held(vat, 6));
            }
        }
        told.add(x.grove(1, 1));
        told.add(x.lot(0, 0));
        told.add(x.vat(2, false, 9));
        int lots = Math.min(MOST_LOTS, x.count(1));
        for (int lot = 0; lot < lots; lot++) {
            told.add(x.weigh(lot, 80));
            told.add(asNumber(x.sample(lot, 50, 5)));
            told.add(x.pay(lot));
            told.add(x.fetch(lot));
            told.add(asNumber(x.take(lot)));
        }
        told.add(x.hand(5, 2, 3));
        for (int day = 0; day < 5; day++) {
            told.add(x.wait(10));
            told.add(x.count(5));
            told.add(x.count(10));
        }
        for (int lot = 0; lot < lots; lot++) {
            told.add(x.told(lot, 0));
            told.add(x.told(lot, 10));
            told.add(x.put(lot, lot % 3));
        }
        for (int mill = 0; mill < 3; mill++) {
            told.add(x.press(mill));
            told.add(asNumber(x.wash(mill)));
        }
        return told;
    }

    static int asNumber(boolean is) {
        return is ? 1 : 0;
    }
}
