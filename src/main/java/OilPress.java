/**
 * A village's oil press, as ../shared/DOC.md promises it: groves, lots, mills, vats, debts and the
 * order of a mill's pressings. Every call answers; none throws. What is refused changes nothing.
 */
public final class OilPress {
    public static final int NONE = -1;

    private static final int FARMERS = 40;
    private static final int LIKES = 10;
    private static final int MOST_GROVES = 60;
    private static final int MOST_LOTS = 200;
    private static final int MILLS = 3;
    private static final int BIN_ROOM = 12;
    private static final int SORTS = 3;
    private static final int MOST_VATS = 12;
    private static final int PLAN_ROOM = 8;

    private static final int PLAIN = 0;
    private static final int SMALL = 1;
    private static final int CLEAN = 2;
    private static final int LATE = 3;
    private static final int DEBT = 4;

    private static final int COME = 0;
    private static final int WEIGHED = 1;
    private static final int SAMPLED = 2;
    private static final int IN_BIN = 3;
    private static final int PRESSED = 4;
    private static final int SHARED = 5;
    private static final int POURED = 6;

    private static final int FINE = 0;
    private static final int GOOD = 1;
    private static final int FINE_SOURNESS = 80;
    private static final int GOOD_SOURNESS = 200;

    private static final int LAST_HOUR = 999;
    private static final int DAY_HOURS = 10;
    private static final int WASH_HOURS = 2;
    private static final int DAYS_APART = 3;
    private static final int MOST_WAIT = 100;
    private static final int MOST_FRESH = 10;
    private static final int MOST_PLACES = 30;
    private static final int MOST_EIGHTHS = 80000;
    private static final int MOST_THOUSANDTHS = 400;
    private static final int MOST_SOUR = 999;
    private static final int MOST_LEAST = 20000;
    private static final int MOST_RATE = 5000;
    private static final int MOST_KEPT = 50;
    private static final int MOST_ROOM = 50000;
    private static final int MOST_BY_HAND = 50000;

    private static final int NO_PLACE = -2;
    private static final int NOT_MEASURED = -3;
    private static final int PLAN_END = -2;
    /** Above every hour and every worth of a plan. */
    private static final int NEVER = 0x7fffffff;

    private final Grove[] groves = new Grove[MOST_GROVES];
    private final Lot[] lots = new Lot[MOST_LOTS];
    private final Mill[] mills = new Mill[MILLS];
    private final Vat[] vats = new Vat[MOST_VATS];
    private final Debts debts = new Debts();
    private final Totals totals = new Totals();
    private final Planner planner = new Planner();
    private int groveCount = 0;
    private int lotCount = 0;
    private int vatCount = 0;
    private int now = 0;
    private int freshDays = 3;
    private int keptOf100 = 10;
    /** Of today's scale; NONE without one. */
    private int freePlaces = NONE;

    public OilPress() {
        for (int i = 0; i < MILLS; i++) {
            mills[i] = new Mill(i);
        }
    }

    public int grove(int farmer, int like) {
        if (!isFarmer(farmer) || !isWithin(like, 0, LIKES - 1) || groveCount >= MOST_GROVES) {
            return NONE;
        }
        groves[groveCount] = new Grove(groveCount, farmer, like);
        groveCount++;
        return groveCount - 1;
    }

    public int lot(int kind, int grove) {
        Grove from = findGrove(grove);
        if (!isWithin(kind, PLAIN, DEBT) || from == null || lotCount >= MOST_LOTS) {
            return NONE;
        }
        lots[lotCount] = new Lot(lotCount, kind, from, today());
        lotCount++;
        return lotCount - 1;
    }

    public boolean wish(int lot, boolean with) {
        Lot one = findLot(lot);
        if (one == null || one.kind == DEBT || !one.isWaiting()) {
            return false;
        }
        one.wishesOthers = with;
        return true;
    }

    public boolean scale(int n) {
        if (!isWithin(n, 0, MOST_PLACES)) {
            return false;
        }
        freePlaces = n;
        return true;
    }

    public int weigh(int lot, int eighths) {
        Lot one = findLot(lot);
        if (one == null || one.state != COME) {
            return NONE;
        }
        if (eighths != NONE && !isWithin(eighths, 1, MOST_EIGHTHS)) {
            return NONE;
        }
        if (freePlaces < 1) {
            return NO_PLACE;
        }
        freePlaces--;
        int tenths = eighths == NONE ? 0 : eighths * 10 / 8;
        if (tenths < 1) {
            return NOT_MEASURED;
        }
        one.tenths = tenths;
        one.state = WEIGHED;
        return tenths;
    }

    public boolean sample(int lot, int thousandths, int sour) {
        Lot one = findLot(lot);
        if (one == null || one.state != WEIGHED) {
            return false;
        }
        if (!isWithin(thousandths, 1, MOST_THOUSANDTHS) || !isWithin(sour, 0, MOST_SOUR)) {
            return false;
        }
        one.thousandths = thousandths;
        one.sourness = sour;
        one.state = SAMPLED;
        return true;
    }

    public int told(int lot, int what) {
        Lot one = findLot(lot);
        if (one == null) {
            return NONE;
        }
        switch (what) {
            case 0: return one.kind;
            case 1: return one.grove.number;
            case 2: return one.day;
            case 3: return one.state;
            case 4: return one.tenths;
            case 5: return one.thousandths;
            case 6: return one.sourness;
            case 7: return one.share;
            case 8: return one.left;
            case 9: return one.place;
            case 10: return asNumber(one.isPressedWithOthers());
            default: return NONE;
        }
    }

    public boolean mill(int mill, int least, int rate) {
        Mill one = findMill(mill);
        if (one == null || one.size > 0) {
            return false;
        }
        if (!isWithin(least, 0, MOST_LEAST) || !isWithin(rate, 1, MOST_RATE)) {
            return false;
        }
        one.least = least;
        one.rate = rate;
        return true;
    }

    public int put(int lot, int mill) {
        Lot one = findLot(lot);
        Mill to = findMill(mill);
        if (one == null || to == null || one.state != SAMPLED || !to.admits(one)) {
            return NONE;
        }
        to.add(one);
        return to.size;
    }

    public boolean take(int lot) {
        Lot one = findLot(lot);
        if (one == null || one.state != IN_BIN) {
            return false;
        }
        Mill from = findMill(one.place);
        if (from == null || from.isPressing) {
            return false;
        }
        from.remove(one);
        return true;
    }

    public boolean wash(int mill) {
        Mill one = findMill(mill);
        if (one == null || one.size > 0 || one.isBusy(now)) {
            return false;
        }
        one.busyTill = now + WASH_HOURS;
        one.isWashed = true;
        return true;
    }

    public int press(int mill) {
        Mill one = findMill(mill);
        if (one == null || !one.mayBegin(now)) {
            return NONE;
        }
        return one.begin(now);
    }

    public boolean gave(int mill, int tenths) {
        Mill one = findMill(mill);
        if (one == null || !one.isPressing || one.isBusy(now) || one.given != NONE) {
            return false;
        }
        if (!isWithin(tenths, 0, one.tenthsInBin())) {
            return false;
        }
        one.given = tenths;
        totals.given += tenths;
        return true;
    }

    public int share(int mill) {
        Mill one = findMill(mill);
        if (one == null || !one.isPressing || one.given == NONE || one.kept != NONE) {
            return NONE;
        }
        one.divide(keptOf100);
        return one.kept;
    }

    public boolean keep(int n) {
        if (!isWithin(n, 0, MOST_KEPT)) {
            return false;
        }
        keptOf100 = n;
        return true;
    }

    public int vat(int sort, boolean clean, int room) {
        if (!isSort(sort) || !isWithin(room, 1, MOST_ROOM) || vatCount >= MOST_VATS) {
            return NONE;
        }
        vats[vatCount] = new Vat(sort, clean, room);
        vatCount++;
        return vatCount - 1;
    }

    public int pour(int mill, int vat) {
        Mill from = findMill(mill);
        Vat to = findVat(vat);
        if (from == null || to == null || !from.isPressing || from.kept == NONE) {
            return NONE;
        }
        if (!to.admits(from)) {
            return NONE;
        }
        to.receive(from);
        from.emptyTo(vat);
        return to.tenths;
    }

    public int fetch(int lot) {
        Lot one = findLot(lot);
        Vat from = vatOf(one);
        if (one == null || from == null || one.left < 1) {
            return NONE;
        }
        int fetched = one.left;
        one.left = 0;
        from.lose(fetched);
        totals.fetched += fetched;
        return fetched;
    }

    public int draw(int vat, int tenths) {
        Vat from = findVat(vat);
        if (from == null || !isWithin(tenths, 1, from.ofPress)) {
            return NONE;
        }
        from.loseOfPress(tenths);
        totals.drawn += tenths;
        return from.ofPress;
    }

    public int lend(int farmer, int vat, int tenths) {
        Vat from = findVat(vat);
        if (!isFarmer(farmer) || from == null || !isWithin(tenths, 1, from.ofPress)) {
            return NONE;
        }
        from.loseOfPress(tenths);
        totals.lent += tenths;
        debts.change(farmer, from.sort, tenths);
        return debts.owed(farmer, from.sort);
    }

    public int pay(int lot) {
        Lot one = findLot(lot);
        Vat in = vatOf(one);
        if (one == null || in == null || one.kind != DEBT || one.left < 1) {
            return NONE;
        }
        int taken = debts.settle(one.grove.farmer, in.sort, one.left);
        one.left -= taken;
        in.ofPress += taken;
        return taken;
    }

    public int hand(int farmer, int sort, int tenths) {
        if (!isFarmer(farmer) || !isSort(sort) || !isWithin(tenths, 0, MOST_BY_HAND)) {
            return NONE;
        }
        return debts.settle(farmer, sort, tenths);
    }

    public int owes(int farmer, int sort) {
        return isFarmer(farmer) && isSort(sort) ? debts.owed(farmer, sort) : NONE;
    }

    public int wait(int n) {
        if (!isWithin(n, 0, MOST_WAIT)) {
            return NONE;
        }
        int yesterday = today();
        now = Math.min(LAST_HOUR, now + n);
        for (int day = yesterday + 1; day <= today(); day++) {
            beginDay(day);
        }
        return now;
    }

    public boolean fresh(int n) {
        if (!isWithin(n, 0, MOST_FRESH)) {
            return false;
        }
        freshDays = n;
        return true;
    }

    public int at(int mill, int what) {
        Mill one = findMill(mill);
        if (one == null) {
            return NONE;
        }
        switch (what) {
            case 0: return one.least;
            case 1: return one.rate;
            case 2: return one.busyTill;
            case 3: return one.size;
            case 4: return asNumber(one.isPressing);
            case 5: return asNumber(one.isWashed);
            case 6: return one.like;
            case 7: return one.promised;
            case 8: return one.given;
            case 9: return one.sourness;
            case 10: return one.kept;
            default: return NONE;
        }
    }

    public int held(int vat, int what) {
        Vat one = findVat(vat);
        if (one == null) {
            return NONE;
        }
        switch (what) {
            case 0: return one.sort;
            case 1: return asNumber(one.isClean);
            case 2: return one.room;
            case 3: return one.tenths;
            case 4: return one.ofPress;
            case 5: return asNumber(one.isTapped);
            case 6: return one.sournessAbove();
            case 7: return one.sournessBelow();
            default: return NONE;
        }
    }

    public int plan(int mill) {
        Mill one = findMill(mill);
        if (one == null || countForPlan() > PLAN_ROOM) {
            return NONE;
        }
        planner.start(Math.max(now, one.busyTill), one.isWashed, one.like);
        for (int i = 0; i < lotCount; i++) {
            if (lots[i].isForPlan()) {
                planner.add(lots[i], one.hoursFor(lots[i].tenths), lateHour(lots[i]));
            }
        }
        planner.decide();
        return planner.size;
    }

    public int planned(int i) {
        if (!planner.isMade) {
            return NONE;
        }
        if (i == NONE) {
            return planner.tooLate;
        }
        if (i == PLAN_END) {
            return planner.end;
        }
        return isWithin(i, 0, planner.size - 1) ? planner.order[i] : NONE;
    }

    public int balance() {
        int rest = totals.given - totals.fetched - totals.drawn - totals.lent;
        for (int i = 0; i < MILLS; i++) {
            rest -= Math.max(0, mills[i].given);
        }
        for (int i = 0; i < vatCount; i++) {
            rest -= vats[i].tenths;
        }
        return rest;
    }

    public int count(int what) {
        switch (what) {
            case 0: return groveCount;
            case 1: return lotCount;
            case 2: return vatCount;
            case 3: return today();
            case 4: return now;
            case 5: return freePlaces;
            case 6: return totals.given;
            case 7: return totals.fetched;
            case 8: return totals.drawn;
            case 9: return totals.lent;
            case 10: return totals.becameLate;
            default: return NONE;
        }
    }

    private int today() {
        return now / DAY_HOURS;
    }

    private void beginDay(int day) {
        freePlaces = NONE;
        for (int i = 0; i < lotCount; i++) {
            if (lots[i].mayBecomeLate() && day - lots[i].day > freshDays) {
                lots[i].kind = LATE;
                totals.becameLate++;
            }
        }
    }

    /** The hour at which a lot that waits becomes late; one that is late already never does. */
    private int lateHour(Lot one) {
        if (one.kind == LATE) {
            return NEVER;
        }
        return DAY_HOURS * Math.max(today() + 1, one.day + freshDays + 1);
    }

    private int countForPlan() {
        int found = 0;
        for (int i = 0; i < lotCount; i++) {
            if (lots[i].isForPlan()) {
                found++;
            }
        }
        return found;
    }

    private Grove findGrove(int number) {
        return isWithin(number, 0, groveCount - 1) ? groves[number] : null;
    }

    private Lot findLot(int number) {
        return isWithin(number, 0, lotCount - 1) ? lots[number] : null;
    }

    private Mill findMill(int number) {
        return isWithin(number, 0, MILLS - 1) ? mills[number] : null;
    }

    private Vat findVat(int number) {
        return isWithin(number, 0, vatCount - 1) ? vats[number] : null;
    }

    private Vat vatOf(Lot one) {
        return one != null && one.state == POURED ? findVat(one.place) : null;
    }

    private static boolean isFarmer(int farmer) {
        return isWithin(farmer, 0, FARMERS - 1);
    }

    private static boolean isSort(int sort) {
        return isWithin(sort, 0, SORTS - 1);
    }

    private static boolean isWithin(int n, int least, int most) {
        return least <= n && n <= most;
    }

    private static int asNumber(boolean is) {
        return is ? 1 : 0;
    }

    /** A begun one counts as a whole one; nothing is divided by what is no divisor. */
    private static long divideUp(long n, long by) {
        return by < 1 ? 0 : (n + by - 1) / by;
    }

    private static final class Grove {
        final int number;
        final int farmer;
        final int like;

        Grove(int number, int farmer, int like) {
            this.number = number;
            this.farmer = farmer;
            this.like = like;
        }
    }

    private static final class Totals {
        int given = 0;
        int fetched = 0;
        int drawn = 0;
        int lent = 0;
        int becameLate = 0;
    }

    private static final class Lot {
        final int number;
        final Grove grove;
        final int day;
        int kind;
        int state = COME;
        int tenths = 0;
        int thousandths = 0;
        int sourness = 0;
        int share = 0;
        int left = 0;
        /** The mill's number while the lot is in a bin, the vat's once it is poured. */
        int place = NONE;
        /** Kept for small and clean ones too: it counts once they have become late. */
        boolean wishesOthers = false;

        Lot(int number, int kind, Grove grove, int day) {
            this.number = number;
            this.kind = kind;
            this.grove = grove;
            this.day = day;
        }

        boolean isWaiting() {
            return state <= SAMPLED;
        }

        boolean mayBecomeLate() {
            return isWaiting() && (kind == PLAIN || kind == SMALL || kind == CLEAN);
        }

        boolean isPressedWithOthers() {
            return kind != PLAIN && kind != LATE || wishesOthers;
        }

        boolean mayBeAlone() {
            return kind == PLAIN || kind == CLEAN || kind == LATE;
        }

        boolean isForPlan() {
            return state == SAMPLED && mayBeAlone();
        }

        int likeIfClean() {
            return kind == CLEAN ? grove.like : NONE;
        }

        long oil() {
            return (long) tenths * thousandths;
        }

        boolean agreesWith(Lot other) {
            if (kind == CLEAN || other.kind == CLEAN) {
                return kind == other.kind && grove.like == other.grove.like;
            }
            if (!isPressedWithOthers() || !other.isPressedWithOthers()) {
                return false;
            }
            if (kind == LATE || other.kind == LATE) {
                return kind == other.kind;
            }
            return Math.abs(day - other.day) <= DAYS_APART;
        }
    }

    private static final class Mill {
        final int number;
        final Lot[] bin = new Lot[BIN_ROOM];
        final long[] cutOff = new long[BIN_ROOM];
        int size = 0;
        int least = 1000;
        int rate = 500;
        int busyTill = 0;
        boolean isWashed = false;
        int like = NONE;
        boolean isPressing = false;
        int promised = 0;
        int sourness = 0;
        int given = NONE;
        int kept = NONE;

        Mill(int number) {
            this.number = number;
        }

        boolean isBusy(int now) {
            return now < busyTill;
        }

        int hoursFor(int tenths) {
            return (int) divideUp(tenths, rate);
        }

        int tenthsInBin() {
            int sum = 0;
            for (int i = 0; i < size; i++) {
                sum += bin[i].tenths;
            }
            return sum;
        }

        boolean admits(Lot lot) {
            if (isPressing || size >= BIN_ROOM) {
                return false;
            }
            if (size == 0) {
                return lot.kind != CLEAN || isWashed || like == lot.grove.like;
            }
            for (int i = 0; i < size; i++) {
                if (!bin[i].agreesWith(lot)) {
                    return false;
                }
            }
            return true;
        }

        void add(Lot lot) {
            if (size >= BIN_ROOM) {
                return;
            }
            bin[size] = lot;
            size++;
            lot.state = IN_BIN;
            lot.place = number;
        }

        void remove(Lot lot) {
            int stay = 0;
            for (int i = 0; i < size; i++) {
                if (bin[i] != lot) {
                    bin[stay] = bin[i];
                    stay++;
                }
            }
            size = stay;
            lot.state = SAMPLED;
            lot.place = NONE;
        }

        boolean mayBegin(int now) {
            if (isPressing || isBusy(now) || size == 0) {
                return false;
            }
            return tenthsInBin() >= least || size == 1 && bin[0].mayBeAlone();
        }

        /** Lots that agree are all clean or none is, so the first tells for all. */
        boolean isClean() {
            return size > 0 && bin[0].kind == CLEAN;
        }

        boolean hasLate() {
            return size > 0 && bin[0].kind == LATE;
        }

        int begin(int now) {
            int tenths = tenthsInBin();
            int itsHours = hoursFor(tenths);
            long oil = 0;
            long sour = 0;
            for (int i = 0; i < size; i++) {
                oil += bin[i].oil();
                sour += (long) bin[i].tenths * bin[i].sourness;
                bin[i].state = PRESSED;
            }
            promised = (int) (oil / 1000);
            sourness = tenths < 1 ? 0 : (int) (sour / tenths);
            like = size > 0 ? bin[0].likeIfClean() : NONE;
            isWashed = false;
            isPressing = true;
            busyTill = now + itsHours;
            return itsHours;
        }

        void divide(int keptOf100) {
            kept = (int) ((long) given * keptOf100 / 100);
            int toLots = given - kept;
            int over = toLots;
            long products = 0;
            for (int i = 0; i < size; i++) {
                products += bin[i].oil();
            }
            for (int i = 0; i < size && products > 0; i++) {
                long part = toLots * bin[i].oil();
                bin[i].share = (int) (part / products);
                bin[i].state = SHARED;
                cutOff[i] = part % products;
                over -= bin[i].share;
            }
            for (int i = 0; i < size && over > 0; i++) {
                giveOneOver();
                over--;
            }
        }

        private void giveOneOver() {
            int most = 0;
            for (int i = 1; i < size; i++) {
                boolean isLesser = bin[i].number < bin[most].number;
                if (cutOff[i] > cutOff[most] || cutOff[i] == cutOff[most] && isLesser) {
                    most = i;
                }
            }
            if (size > 0) {
                bin[most].share++;
                cutOff[most] = NONE;
            }
        }

        void emptyTo(int vat) {
            for (int i = 0; i < size; i++) {
                bin[i].state = POURED;
                bin[i].left = bin[i].share;
                bin[i].place = vat;
            }
            size = 0;
            isPressing = false;
            promised = 0;
            sourness = 0;
            given = NONE;
            kept = NONE;
        }
    }

    private static final class Vat {
        final int sort;
        final boolean isClean;
        final int room;
        int tenths = 0;
        int ofPress = 0;
        boolean isTapped = false;
        /** The sourness is kept as the sum and the tenths that it is of: it stays as oil is taken. */
        long sourSum = 0;
        long sourTenths = 0;

        Vat(int sort, boolean isClean, int room) {
            this.sort = sort;
            this.isClean = isClean;
            this.room = room;
        }

        boolean admits(Mill from) {
            if (isTapped || isClean != from.isClean() || from.given > room - tenths) {
                return false;
            }
            if (sort == FINE && from.hasLate()) {
                return false;
            }
            long above = sourSum + (long) from.given * from.sourness;
            long below = sourTenths + from.given;
            if (sort == FINE) {
                return above <= below * FINE_SOURNESS;
            }
            return sort != GOOD || above <= below * GOOD_SOURNESS;
        }

        void receive(Mill from) {
            tenths += from.given;
            ofPress += from.kept;
            sourSum += (long) from.given * from.sourness;
            sourTenths += from.given;
        }

        void lose(int taken) {
            tenths -= taken;
            isTapped = tenths > 0;
            if (tenths < 1) {
                sourSum = 0;
                sourTenths = 0;
            }
        }

        void loseOfPress(int taken) {
            ofPress -= taken;
            lose(taken);
        }

        int sournessAbove() {
            return (int) (sourSum / commonDivisor(sourSum, sourTenths));
        }

        int sournessBelow() {
            return sourTenths < 1 ? 1 : (int) (sourTenths / commonDivisor(sourSum, sourTenths));
        }

        /** At least 1, so that it may divide. Euclid needs far fewer steps than the bound. */
        private static long commonDivisor(long a, long b) {
            for (int i = 0; i < 200 && b > 0; i++) {
                long rest = a % b;
                a = b;
                b = rest;
            }
            return Math.max(1, a);
        }
    }

    /** What each farmer owes of each sort. */
    private static final class Debts {
        private final int[] rows = new int[FARMERS * SORTS];

        int owed(int farmer, int sort) {
            return isFarmer(farmer) && isSort(sort) ? rows[farmer * SORTS + sort] : 0;
        }

        void change(int farmer, int sort, int by) {
            if (isFarmer(farmer) && isSort(sort)) {
                rows[farmer * SORTS + sort] += by;
            }
        }

        /** Finer oil counts for more against a debt of a lesser sort. Answers what is taken. */
        int settle(int farmer, int sort, int tenths) {
            int left = tenths;
            for (int t = sort; t < SORTS && left > 0; t++) {
                int worth = 100 + 10 * (t - sort);
                long owed = owed(farmer, t);
                long taken = Math.min(left, divideUp(100 * owed, worth));
                change(farmer, t, (int) -Math.min(owed, taken * worth / 100));
                left -= (int) taken;
            }
            return tenths - left;
        }
    }

    /**
     * Finds the best order of at most eight lots. What is best from some point on hangs only on which
     * lots are through, which was the last, and how often was washed: each such point is looked at once.
     */
    private static final class Planner {
        private static final int SETS = 1 << PLAN_ROOM;
        private static final int WASHINGS = PLAN_ROOM + 1;
        /** One number tells a point's worth: the late ones above these bits, the end within them. */
        private static final int END_BITS = 26;

        private final int[] numbers = new int[PLAN_ROOM];
        private final int[] likes = new int[PLAN_ROOM];
        private final int[] hours = new int[PLAN_ROOM];
        private final int[] lateHours = new int[PLAN_ROOM];
        private final int[] hoursOf = new int[SETS];
        private final int[] cleanOf = new int[SETS];
        private final int[] best = new int[SETS * PLAN_ROOM * WASHINGS];
        private int beginning = 0;
        private boolean isWashed = false;
        private int millLike = NONE;

        final int[] order = new int[PLAN_ROOM];
        int size = 0;
        int tooLate = 0;
        int end = 0;
        boolean isMade = false;

        void start(int hour, boolean millIsWashed, int likeOfMill) {
            beginning = hour;
            isWashed = millIsWashed;
            millLike = likeOfMill;
            size = 0;
            isMade = true;
        }

        void add(Lot lot, int itsHours, int lateHour) {
            if (size >= PLAN_ROOM) {
                return;
            }
            numbers[size] = lot.number;
            likes[size] = lot.likeIfClean();
            hours[size] = itsHours;
            lateHours[size] = lateHour;
            size++;
        }

        void decide() {
            int all = (1 << size) - 1;
            for (int set = 1; set <= all; set++) {
                sumUp(set);
            }
            for (int set = all; set > 0; set--) {
                for (int last = 0; last < size; last++) {
                    if (holds(set, last)) {
                        judge(set, last);
                    }
                }
            }
            follow();
        }

        private void sumUp(int set) {
            hoursOf[set] = 0;
            cleanOf[set] = 0;
            for (int i = 0; i < size; i++) {
                if (holds(set, i)) {
                    hoursOf[set] += hours[i];
                    cleanOf[set] += likes[i] == NONE ? 0 : 1;
                }
            }
        }

        private void judge(int set, int last) {
            for (int washings = 0; washings <= cleanOf[set]; washings++) {
                int next = bestNext(set, last, washings);
                best[slot(set, last, washings)] = next == NONE
                        ? hourAfter(set, washings) : worth(set, last, washings, next);
            }
        }

        /** Takes the lots' numbers as they rise, so that of like orders the first found is due. */
        private int bestNext(int set, int last, int washings) {
            int found = NONE;
            int least = NEVER;
            for (int next = 0; next < size; next++) {
                if (!holds(set, next)) {
                    int its = worth(set, last, washings, next);
                    if (its < least) {
                        least = its;
                        found = next;
                    }
                }
            }
            return found;
        }

        private int worth(int set, int last, int washings, int next) {
            int then = washings + (needsWash(last, next) ? 1 : 0);
            int late = hourAfter(set, then) >= lateHours[next] ? 1 << END_BITS : 0;
            return late + best[slot(set | 1 << next, next, then)];
        }

        private boolean needsWash(int last, int next) {
            if (likes[next] == NONE) {
                return false;
            }
            if (last == NONE) {
                return !isWashed && millLike != likes[next];
            }
            return likes[last] != likes[next];
        }

        private int hourAfter(int set, int washings) {
            return beginning + hoursOf[set] + WASH_HOURS * washings;
        }

        private void follow() {
            int set = 0;
            int last = NONE;
            int washings = 0;
            tooLate = 0;
            for (int i = 0; i < size; i++) {
                int next = bestNext(set, last, washings);
                if (next == NONE) {
                    break;
                }
                washings += needsWash(last, next) ? 1 : 0;
                tooLate += hourAfter(set, washings) >= lateHours[next] ? 1 : 0;
                order[i] = numbers[next];
                set |= 1 << next;
                last = next;
            }
            end = hourAfter(set, washings);
        }

        private static boolean holds(int set, int i) {
            return (set >> i & 1) == 1;
        }

        private static int slot(int set, int last, int washings) {
            return (set * PLAN_ROOM + last) * WASHINGS + washings;
        }
    }
}
