import java.math.BigInteger;
import java.util.ArrayList;
import java.util.List;

/**
 * The document said once more, for the tests alone: as plainly as may be, by other ways than the class
 * (every order tried, whole numbers counted up one by one, sums of fractions kept as lists).
 */
final class Model {
    static final class Lot {
        int kind, grove, day, state, tenths, thousandths, sour, share, left, mill = -1, vat = -1;
        boolean wish;

        boolean with() {
            return kind == 1 || kind == 2 || kind == 4 || wish;
        }
    }

    static final class Mill {
        int least = 1000, rate = 500, busy, like = -1, given = -1, kept = -1;
        boolean washed, pressing;
        List<Integer> bin = new ArrayList<>();
    }

    static final class Vat {
        int sort, room, tenths, press;
        boolean clean, tapped;
        /** Pairs of tenths and sourness. */
        List<int[]> poured = new ArrayList<>();
    }

    private final List<int[]> groves = new ArrayList<>();
    private final List<Lot> lots = new ArrayList<>();
    private final List<Vat> vats = new ArrayList<>();
    private final Mill[] mills = {new Mill(), new Mill(), new Mill()};
    private final int[][] owed = new int[40][3];
    private int now, fresh = 3, keep = 10, places = -1, given, fetched, drawn, lent, late;
    private int[] plan;

    int grove(int farmer, int like) {
        if (farmer < 0 || farmer > 39 || like < 0 || like > 9 || groves.size() == 60) {
            return -1;
        }
        groves.add(new int[] {farmer, like});
        return groves.size() - 1;
    }

    int lot(int kind, int grove) {
        if (kind < 0 || kind > 4 || grove < 0 || grove >= groves.size() || lots.size() == 200) {
            return -1;
        }
        Lot one = new Lot();
        one.kind = kind;
        one.grove = grove;
        one.day = now / 10;
        lots.add(one);
        return lots.size() - 1;
    }

    private boolean isLot(int lot, int from, int to) {
        return lot >= 0 && lot < lots.size() && lots.get(lot).state >= from && lots.get(lot).state <= to;
    }

    private boolean isMill(int mill) {
        return mill >= 0 && mill < 3;
    }

    private boolean isVat(int vat) {
        return vat >= 0 && vat < vats.size();
    }

    boolean wish(int lot, boolean with) {
        if (!isLot(lot, 0, 2) || lots.get(lot).kind == 4) {
            return false;
        }
        lots.get(lot).wish = with;
        return true;
    }

    boolean scale(int n) {
        if (n < 0 || n > 30) {
            return false;
        }
        places = n;
        return true;
    }

    int weigh(int lot, int eighths) {
        if (!isLot(lot, 0, 0) || eighths < -1 || eighths == 0 || eighths > 80000) {
            return -1;
        }
        if (places <= 0) {
            return -2;
        }
        places--;
        if (eighths == -1) {
            return -3;
        }
        lots.get(lot).state = 1;
        return lots.get(lot).tenths = eighths * 5 / 4;
    }

    boolean sample(int lot, int thousandths, int sour) {
        if (!isLot(lot, 1, 1) || thousandths < 1 || thousandths > 400 || sour < 0 || sour > 999) {
            return false;
        }
        Lot one = lots.get(lot);
        one.thousandths = thousandths;
        one.sour = sour;
        one.state = 2;
        return true;
    }

    int told(int lot, int what) {
        if (!isLot(lot, 0, 6) || what < 0 || what > 10) {
            return -1;
        }
        Lot x = lots.get(lot);
        int where = x.state == 6 ? x.vat : x.state >= 3 ? x.mill : -1;
        return new int[] {x.kind, x.grove, x.day, x.state, x.tenths, x.thousandths, x.sour, x.share, x.left, where,
            x.with() ? 1 : 0}[what];
    }

    boolean mill(int mill, int least, int rate) {
        if (!isMill(mill) || !mills[mill].bin.isEmpty() || least < 0 || least > 20000 || rate < 1 || rate > 5000) {
            return false;
        }
        mills[mill].least = least;
        mills[mill].rate = rate;
        return true;
    }

    private int like(int lot) {
        return groves.get(lots.get(lot).grove)[1];
    }

    private boolean agree(int a, int b) {
        Lot one = lots.get(a);
        Lot two = lots.get(b);
        boolean clean = one.kind == 2 && two.kind == 2 && like(a) == like(b);
        boolean late = one.kind == 3 && two.kind == 3 && one.wish && two.wish;
        return clean || late || isCommon(one) && isCommon(two)
                && one.day - two.day <= 3 && two.day - one.day <= 3;
    }

    private boolean isCommon(Lot one) {
        return one.kind == 1 || one.kind == 4 || one.kind == 0 && one.wish;
    }

    int put(int lot, int mill) {
        if (!isLot(lot, 2, 2) || !isMill(mill)) {
            return -1;
        }
        Mill to = mills[mill];
        boolean may = !to.pressing && to.bin.size() < 12;
        for (int other : to.bin) {
            may &= agree(lot, other);
        }
        if (to.bin.isEmpty() && lots.get(lot).kind == 2) {
            may &= to.washed || to.like == like(lot);
        }
        if (!may) {
            return -1;
        }
        to.bin.add(lot);
        lots.get(lot).state = 3;
        lots.get(lot).mill = mill;
        return to.bin.size();
    }

    boolean take(int lot) {
        if (!isLot(lot, 3, 3) || mills[lots.get(lot).mill].pressing) {
            return false;
        }
        mills[lots.get(lot).mill].bin.remove(Integer.valueOf(lot));
        lots.get(lot).state = 2;
        return true;
    }

    boolean wash(int mill) {
        if (!isMill(mill) || !mills[mill].bin.isEmpty() || now < mills[mill].busy) {
            return false;
        }
        mills[mill].busy = now + 2;
        mills[mill].washed = true;
        return true;
    }

    private int tenths(Mill one) {
        int sum = 0;
        for (int lot : one.bin) {
            sum += lots.get(lot).tenths;
        }
        return sum;
    }

    private int hours(Mill one, int tenths) {
        int hours = tenths / one.rate;
        return hours * one.rate == tenths ? hours : hours + 1;
    }

    int press(int mill) {
        if (!isMill(mill)) {
            return -1;
        }
        Mill one = mills[mill];
        if (one.pressing || now < one.busy || one.bin.isEmpty()) {
            return -1;
        }
        int kind = lots.get(one.bin.get(0)).kind;
        boolean alone = one.bin.size() == 1 && kind != 1 && kind != 4;
        if (tenths(one) < one.least && !alone) {
            return -1;
        }
        for (int lot : one.bin) {
            lots.get(lot).state = 4;
        }
        one.pressing = true;
        one.washed = false;
        one.like = kind == 2 ? like(one.bin.get(0)) : -1;
        one.busy = now + hours(one, tenths(one));
        return one.busy - now;
    }

    boolean gave(int mill, int tenths) {
        if (!isMill(mill) || !mills[mill].pressing || now < mills[mill].busy || mills[mill].given >= 0) {
            return false;
        }
        if (tenths < 0 || tenths > tenths(mills[mill])) {
            return false;
        }
        mills[mill].given = tenths;
        given += tenths;
        return true;
    }

    int share(int mill) {
        if (!isMill(mill) || !mills[mill].pressing || mills[mill].given < 0 || mills[mill].kept >= 0) {
            return -1;
        }
        Mill one = mills[mill];
        one.kept = one.given * keep / 100;
        BigInteger rest = BigInteger.valueOf(one.given - one.kept);
        BigInteger all = BigInteger.ZERO;
        for (int lot : one.bin) {
            all = all.add(product(lot));
        }
        List<Integer> order = new ArrayList<>(one.bin);
        int over = rest.intValue();
        BigInteger[] cut = new BigInteger[lots.size()];
        for (int lot : one.bin) {
            BigInteger[] part = rest.multiply(product(lot)).divideAndRemainder(all);
            lots.get(lot).share = part[0].intValue();
            lots.get(lot).state = 5;
            cut[lot] = part[1];
            over -= part[0].intValue();
        }
        order.sort((a, b) -> cut[b].equals(cut[a]) ? a - b : cut[b].compareTo(cut[a]));
        for (int i = 0; i < over; i++) {
            lots.get(order.get(i)).share++;
        }
        return one.kept;
    }

    private BigInteger product(int lot) {
        return BigInteger.valueOf(lots.get(lot).tenths).multiply(BigInteger.valueOf(lots.get(lot).thousandths));
    }

    boolean keep(int n) {
        if (n < 0 || n > 50) {
            return false;
        }
        keep = n;
        return true;
    }

    int vat(int sort, boolean clean, int room) {
        if (sort < 0 || sort > 2 || room < 1 || room > 50000 || vats.size() == 12) {
            return -1;
        }
        Vat one = new Vat();
        one.sort = sort;
        one.clean = clean;
        one.room = room;
        vats.add(one);
        return vats.size() - 1;
    }

    private long sourness(Mill one) {
        long sum = 0;
        for (int lot : one.bin) {
            sum += (long) lots.get(lot).tenths * lots.get(lot).sour;
        }
        return sum / tenths(one);
    }

    int pour(int mill, int vat) {
        if (!isMill(mill) || !isVat(vat) || !mills[mill].pressing || mills[mill].kept < 0) {
            return -1;
        }
        Mill from = mills[mill];
        Vat to = vats.get(vat);
        boolean clean = true;
        boolean late = false;
        for (int lot : from.bin) {
            clean &= lots.get(lot).kind == 2;
            late |= lots.get(lot).kind == 3;
        }
        if (clean != to.clean || to.tapped || to.tenths + from.given > to.room || late && to.sort == 0) {
            return -1;
        }
        to.poured.add(new int[] {from.given, (int) sourness(from)});
        long[] sour = sour(to);
        if (sour[0] > 80 * sour[1] && to.sort == 0 || sour[0] > 200 * sour[1] && to.sort == 1) {
            to.poured.remove(to.poured.size() - 1);
            return -1;
        }
        to.tenths += from.given;
        to.press += from.kept;
        for (int lot : from.bin) {
            lots.get(lot).state = 6;
            lots.get(lot).left = lots.get(lot).share;
            lots.get(lot).vat = vat;
        }
        from.bin.clear();
        from.pressing = false;
        from.given = -1;
        from.kept = -1;
        return to.tenths;
    }

    private long[] sour(Vat one) {
        long above = 0;
        long below = 0;
        for (int[] part : one.poured) {
            above += (long) part[0] * part[1];
            below += part[0];
        }
        return new long[] {above, below};
    }

    private void lose(Vat one, int tenths) {
        one.tenths -= tenths;
        one.tapped = one.tenths != 0;
        if (one.tenths == 0) {
            one.poured.clear();
        }
    }

    int fetch(int lot) {
        if (!isLot(lot, 6, 6) || lots.get(lot).left == 0) {
            return -1;
        }
        int tenths = lots.get(lot).left;
        lots.get(lot).left = 0;
        lose(vats.get(lots.get(lot).vat), tenths);
        fetched += tenths;
        return tenths;
    }

    int draw(int vat, int tenths) {
        if (!isVat(vat) || tenths < 1 || tenths > vats.get(vat).press) {
            return -1;
        }
        vats.get(vat).press -= tenths;
        lose(vats.get(vat), tenths);
        drawn += tenths;
        return vats.get(vat).press;
    }

    int lend(int farmer, int vat, int tenths) {
        if (farmer < 0 || farmer > 39 || !isVat(vat) || tenths < 1 || tenths > vats.get(vat).press) {
            return -1;
        }
        vats.get(vat).press -= tenths;
        lose(vats.get(vat), tenths);
        lent += tenths;
        return owed[farmer][vats.get(vat).sort] += tenths;
    }

    private int pays(int farmer, int sort, int tenths) {
        int there = tenths;
        for (int t = sort; t < 3; t++) {
            int counts = 100 + 10 * (t - sort);
            int taken = 0;
            while (taken < there && taken * counts / 100 < owed[farmer][t]) {
                taken++;
            }
            owed[farmer][t] = Math.max(0, owed[farmer][t] - taken * counts / 100);
            there -= taken;
        }
        return tenths - there;
    }

    int pay(int lot) {
        if (!isLot(lot, 6, 6) || lots.get(lot).kind != 4 || lots.get(lot).left == 0) {
            return -1;
        }
        Lot one = lots.get(lot);
        Vat in = vats.get(one.vat);
        int taken = pays(groves.get(one.grove)[0], in.sort, one.left);
        one.left -= taken;
        in.press += taken;
        return taken;
    }

    int hand(int farmer, int sort, int tenths) {
        if (owes(farmer, sort) < 0 || tenths < 0 || tenths > 50000) {
            return -1;
        }
        return pays(farmer, sort, tenths);
    }

    int owes(int farmer, int sort) {
        return farmer < 0 || farmer > 39 || sort < 0 || sort > 2 ? -1 : owed[farmer][sort];
    }

    int wait(int n) {
        if (n < 0 || n > 100) {
            return -1;
        }
        for (int i = 0; i < n && now < 999; i++) {
            now++;
            if (now % 10 == 0) {
                begin(now / 10);
            }
        }
        return now;
    }

    private void begin(int day) {
        places = -1;
        for (Lot one : lots) {
            if (one.state <= 2 && one.kind <= 2 && day - one.day > fresh) {
                one.kind = 3;
                late++;
            }
        }
    }

    boolean fresh(int n) {
        if (n < 0 || n > 10) {
            return false;
        }
        fresh = n;
        return true;
    }

    int at(int mill, int what) {
        if (!isMill(mill) || what < 0 || what > 10) {
            return -1;
        }
        Mill x = mills[mill];
        long oil = 0;
        for (int lot : x.bin) {
            oil += (long) lots.get(lot).tenths * lots.get(lot).thousandths;
        }
        return new int[] {x.least, x.rate, x.busy, x.bin.size(), x.pressing ? 1 : 0, x.washed ? 1 : 0, x.like,
            x.pressing ? (int) (oil / 1000) : 0, x.given, x.pressing ? (int) sourness(x) : 0, x.kept}[what];
    }

    int held(int vat, int what) {
        if (!isVat(vat) || what < 0 || what > 7) {
            return -1;
        }
        Vat x = vats.get(vat);
        int above = 0;
        int below = 1;
        if (x.tenths > 0) {
            BigInteger sum = BigInteger.valueOf(sour(x)[0]);
            BigInteger all = BigInteger.valueOf(sour(x)[1]);
            above = sum.divide(sum.gcd(all)).intValue();
            below = all.divide(sum.gcd(all)).intValue();
        }
        return new int[] {x.sort, x.clean ? 1 : 0, x.room, x.tenths, x.press, x.tapped ? 1 : 0, above, below}[what];
    }

    int plan(int mill) {
        if (!isMill(mill)) {
            return -1;
        }
        List<Integer> its = new ArrayList<>();
        for (int i = 0; i < lots.size(); i++) {
            int kind = lots.get(i).kind;
            if (lots.get(i).state == 2 && (kind == 0 || kind == 2 || kind == 3)) {
                its.add(i);
            }
        }
        if (its.size() > 8) {
            return -1;
        }
        plan = null;
        tryOrders(mills[mill], its, new ArrayList<>());
        return its.size();
    }

    /** The orders come with the least numbers first, so that a later one must be truly better. */
    private void tryOrders(Mill mill, List<Integer> its, List<Integer> order) {
        if (order.size() == its.size()) {
            int[] found = judge(mill, order);
            if (plan == null || found[0] < plan[0] || found[0] == plan[0] && found[1] < plan[1]) {
                plan = found;
            }
            return;
        }
        for (int lot : its) {
            if (!order.contains(lot)) {
                order.add(lot);
                tryOrders(mill, its, order);
                order.remove(order.size() - 1);
            }
        }
    }

    private int[] judge(Mill mill, List<Integer> order) {
        int[] found = new int[order.size() + 2];
        int hour = Math.max(now, mill.busy);
        for (int i = 0; i < order.size(); i++) {
            int lot = order.get(i);
            Lot one = lots.get(lot);
            boolean ready = i == 0 ? mill.washed || mill.like == like(lot)
                    : lots.get(order.get(i - 1)).kind == 2 && like(order.get(i - 1)) == like(lot);
            if (one.kind == 2 && !ready) {
                hour += 2;
            }
            int day = now / 10 + 1;
            while (day - one.day <= fresh) {
                day++;
            }
            if (one.kind != 3 && hour >= 10 * day) {
                found[0]++;
            }
            hour += hours(mill, one.tenths);
            found[i + 2] = lot;
        }
        found[1] = hour;
        return found;
    }

    int planned(int i) {
        if (plan == null || i < -2 || i > plan.length - 3) {
            return -1;
        }
        return i == -1 ? plan[0] : i == -2 ? plan[1] : plan[i + 2];
    }

    int balance() {
        int sum = given - fetched - drawn - lent;
        for (Mill one : mills) {
            sum -= one.given > 0 ? one.given : 0;
        }
        for (Vat one : vats) {
            sum -= one.tenths;
        }
        return sum;
    }

    int count(int what) {
        if (what < 0 || what > 10) {
            return -1;
        }
        return new int[] {groves.size(), lots.size(), vats.size(), now / 10, now, places, given, fetched, drawn, lent,
            late}[what];
    }
}
