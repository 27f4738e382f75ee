import java.util.Random;

/** Runs of chosen calls on the class and on the model: each answer and, now and then, all that can be asked. */
final class ModelTest {
    private static final int CALLS = 32;
    private static final int[] EDGES = {Integer.MIN_VALUE, -3, -2, -1, 0, 1, 2, 3, 11, 12, 30, 31, 39, 40, 50, 51, 60,
        100, 101, 200, 400, 401, 999, 1000, 5000, 5001, 20000, 20001, 50000, 50001, 80000, 80001, Integer.MAX_VALUE};

    private final Check check;
    private final Random random;
    private final OilPress press = new OilPress();
    private final Model model = new Model();
    private final boolean wild;
    private final String run;

    private ModelTest(Check check, int seed) {
        this.check = check;
        this.random = new Random(seed);
        this.wild = seed % 4 == 3;
        this.run = "run " + seed;
    }

    public static void main(String[] args) {
        Check c = new Check();
        int runs = args.length > 0 ? Integer.parseInt(args[0]) : 2000;
        for (int seed = 0; seed < runs; seed++) {
            c.part("run " + seed);
            new ModelTest(c, seed).go();
        }
        for (int seed = 0; seed < 200; seed++) {
            c.part("plan " + seed);
            new ModelTest(c, 4 * seed).goByPlans();
        }
        c.end();
    }

    private void go() {
        int n = 80 + random.nextInt(430);
        setUp();
        for (int i = 0; i < n; i++) {
            try {
                step();
            } catch (RuntimeException thrown) {
                check.due(run + ", call " + i + " threw " + thrown, 1, 0);
                return;
            }
        }
        compareAll();
    }

    private void setUp() {
        if (random.nextInt(8) == 0) {
            return;
        }
        for (int i = 0; i < 4; i++) {
            same("grove", press.grove(i, i / 2), model.grove(i, i / 2));
        }
        for (int i = 0; i < 3; i++) {
            int rate = 300 + random.nextInt(3000);
            same("mill", press.mill(i, 200, rate) ? 1 : 0, model.mill(i, 200, rate) ? 1 : 0);
        }
        for (int i = 0; i < 4; i++) {
            int room = 500 + random.nextInt(5000);
            int sort = random.nextInt(3);
            same("vat", press.vat(sort, i == 3, room), model.vat(sort, i == 3, room));
        }
    }

    private void same(String call, long got, long want) {
        check.due(call, got, want);
    }

    private int any(int below) {
        if (wild ? random.nextInt(4) == 0 : random.nextInt(60) == 0) {
            return EDGES[random.nextInt(EDGES.length)];
        }
        return random.nextInt(below);
    }

    /** A lot, rather one in the state than another. */
    private int aLot(int state) {
        int lots = model.count(1);
        int lot = any(Math.max(1, lots));
        for (int i = 0; i < 12 && model.told(lot, 3) != state; i++) {
            lot = any(Math.max(1, lots));
        }
        return lot;
    }

    private void step() {
        int pick = random.nextInt(100);
        if (pick < 25) {
            fruit(random.nextInt(6));
        } else if (pick < 60) {
            mills(random.nextInt(9));
        } else if (pick < 80) {
            oil(random.nextInt(9));
        } else if (pick < 90) {
            time();
        } else {
            ask();
        }
    }

    private void fruit(int which) {
        int a = any(4);
        int b = any(4);
        switch (which) {
            case 0:
                same("grove(" + a + ", " + b + ")", press.grove(a, b), model.grove(a, b));
                break;
            case 1:
                wholeLot();
                break;
            case 2:
                int kind = any(5);
                same("lot(" + kind + ", " + a + ")", press.lot(kind, a), model.lot(kind, a));
                break;
            case 3:
                scaleAndWeigh();
                break;
            case 4:
                int lot = aLot(1);
                int oil = 1 + any(400);
                int sour = any(random.nextBoolean() ? 1000 : 120);
                same("sample(" + lot + ", " + oil + ", " + sour + ")", press.sample(lot, oil, sour) ? 1 : 0,
                        model.sample(lot, oil, sour) ? 1 : 0);
                break;
            default:
                int one = aLot(2);
                boolean with = random.nextInt(4) > 0;
                same("wish(" + one + ", " + with + ")", press.wish(one, with) ? 1 : 0, model.wish(one, with) ? 1 : 0);
        }
    }

    private void wholeLot() {
        int kind = random.nextInt(5);
        int grove = any(4);
        int lot = press.lot(kind, grove);
        same("lot(" + kind + ", " + grove + ")", lot, model.lot(kind, grove));
        same("scale(3)", press.scale(3) ? 1 : 0, model.scale(3) ? 1 : 0);
        int eighths = 1 + any(random.nextBoolean() ? 1000 : 9000);
        same("weigh(" + lot + ", " + eighths + ")", press.weigh(lot, eighths), model.weigh(lot, eighths));
        int oil = 1 + any(400);
        int sour = any(110);
        same("sample", press.sample(lot, oil, sour) ? 1 : 0, model.sample(lot, oil, sour) ? 1 : 0);
        boolean with = random.nextInt(4) > 0;
        same("wish", press.wish(lot, with) ? 1 : 0, model.wish(lot, with) ? 1 : 0);
    }

    private void scaleAndWeigh() {
        int n = any(31);
        int lot = aLot(0);
        int eighths = random.nextInt(5) == 0 ? -1 : any(80001);
        if (random.nextBoolean()) {
            same("scale(" + n + ")", press.scale(n) ? 1 : 0, model.scale(n) ? 1 : 0);
        }
        same("weigh(" + lot + ", " + eighths + ")", press.weigh(lot, eighths), model.weigh(lot, eighths));
    }

    private void mills(int which) {
        int mill = any(3);
        int lot = aLot(which == 1 ? 3 : 2);
        int n = any(3000);
        switch (which) {
            case 0:
                int rate = any(5002);
                same("mill(" + mill + ", " + n + ", " + rate + ")", press.mill(mill, n, rate) ? 1 : 0,
                        model.mill(mill, n, rate) ? 1 : 0);
                break;
            case 1:
                if (random.nextInt(4) == 0) {
                    same("take(" + lot + ")", press.take(lot) ? 1 : 0, model.take(lot) ? 1 : 0);
                }
                break;
            case 2:
                same("wash(" + mill + ")", press.wash(mill) ? 1 : 0, model.wash(mill) ? 1 : 0);
                break;
            case 3:
                same("press(" + mill + ")", press.press(mill), model.press(mill));
                break;
            case 4:
                int given = random.nextBoolean() ? any(300) : model.at(mill, 7);
                same("gave(" + mill + ", " + given + ")", press.gave(mill, given) ? 1 : 0,
                        model.gave(mill, given) ? 1 : 0);
                break;
            case 5:
                same("share(" + mill + ")", press.share(mill), model.share(mill));
                break;
            case 6:
                int vat = any(6);
                same("pour(" + mill + ", " + vat + ")", press.pour(mill, vat), model.pour(mill, vat));
                break;
            default:
                same("put(" + lot + ", " + mill + ")", press.put(lot, mill), model.put(lot, mill));
        }
    }

    private void oil(int which) {
        int vat = any(6);
        int farmer = any(4);
        int sort = any(3);
        int tenths = any(60);
        int lot = aLot(6);
        switch (which) {
            case 0:
                same("keep(" + tenths + ")", press.keep(tenths) ? 1 : 0, model.keep(tenths) ? 1 : 0);
                break;
            case 1:
                int room = any(6000);
                boolean clean = random.nextInt(3) == 0;
                same("vat(" + sort + ", " + clean + ", " + room + ")", press.vat(sort, clean, room),
                        model.vat(sort, clean, room));
                break;
            case 2:
                same("fetch(" + lot + ")", press.fetch(lot), model.fetch(lot));
                break;
            case 3:
                int all = random.nextBoolean() ? tenths : model.held(vat, 4);
                same("draw(" + vat + ", " + all + ")", press.draw(vat, all), model.draw(vat, all));
                break;
            case 4:
            case 5:
                same("lend(" + farmer + ", " + vat + ", " + tenths + ")", press.lend(farmer, vat, tenths),
                        model.lend(farmer, vat, tenths));
                break;
            case 6:
                same("hand(" + farmer + ", " + sort + ", " + tenths + ")", press.hand(farmer, sort, tenths),
                        model.hand(farmer, sort, tenths));
                break;
            default:
                same("pay(" + lot + ")", press.pay(lot), model.pay(lot));
        }
    }

    private void time() {
        int n = any(random.nextInt(5) == 0 ? 30 : 6);
        if (random.nextInt(6) == 0) {
            same("fresh(" + n + ")", press.fresh(n) ? 1 : 0, model.fresh(n) ? 1 : 0);
        } else {
            same("wait(" + n + ")", press.wait(n), model.wait(n));
        }
    }

    private void ask() {
        int a = any(12);
        int b = any(12);
        same("told(" + a + ", " + b + ")", press.told(a, b), model.told(a, b));
        same("at(" + a + ", " + b + ")", press.at(a, b), model.at(a, b));
        same("held(" + a + ", " + b + ")", press.held(a, b), model.held(a, b));
        same("owes(" + a + ", " + b + ")", press.owes(a, b), model.owes(a, b));
        same("planned(" + a + ")", press.planned(a), model.planned(a));
        same("count(" + a + ")", press.count(a), model.count(a));
        same("balance()", press.balance(), model.balance());
        same("balance() is 0", press.balance(), 0);
        if (random.nextInt(4) == 0) {
            planAndCompare(any(3));
        }
    }

    private void planAndCompare(int mill) {
        same("plan(" + mill + ")", press.plan(mill), model.plan(mill));
        for (int i = -3; i < 10; i++) {
            same("planned(" + i + ")", press.planned(i), model.planned(i));
        }
    }

    private void compareAll() {
        for (int what = -1; what < 12; what++) {
            for (int lot = -1; lot <= model.count(1); lot++) {
                same("told(" + lot + ", " + what + ")", press.told(lot, what), model.told(lot, what));
            }
            for (int one = -1; one < 13; one++) {
                same("at(" + one + ", " + what + ")", press.at(one, what), model.at(one, what));
                same("held(" + one + ", " + what + ")", press.held(one, what), model.held(one, what));
                same("owes(" + what + ", " + one + ")", press.owes(what, one), model.owes(what, one));
            }
            same("count(" + what + ")", press.count(what), model.count(what));
        }
    }

    /** Some lots of few likes and of more hours than a day has, so that the orders differ. */
    private void goByPlans() {
        int likes = 1 + random.nextInt(4);
        for (int i = 0; i < likes; i++) {
            same("grove", press.grove(i, i), model.grove(i, i));
        }
        int fresh = random.nextInt(5);
        int rate = 60 + random.nextInt(300);
        same("fresh", press.fresh(fresh) ? 1 : 0, model.fresh(fresh) ? 1 : 0);
        same("mill", press.mill(1, 0, rate) ? 1 : 0, model.mill(1, 0, rate) ? 1 : 0);
        int lots = random.nextInt(10) == 0 ? 8 : random.nextInt(7);
        for (int i = 0; i < lots; i++) {
            int kind = new int[] {0, 2, 2, 0, 3, 2}[random.nextInt(6)];
            int grove = random.nextInt(likes);
            int eighths = 1 + random.nextInt(random.nextBoolean() ? 400 : 1500);
            same("lot", press.lot(kind, grove), model.lot(kind, grove));
            same("scale", press.scale(1) ? 1 : 0, model.scale(1) ? 1 : 0);
            same("weigh", press.weigh(i, eighths), model.weigh(i, eighths));
            same("sample", press.sample(i, 100, 10) ? 1 : 0, model.sample(i, 100, 10) ? 1 : 0);
            int n = random.nextInt(5);
            same("wait", press.wait(n), model.wait(n));
        }
        planAndCompare(1);
        same("wash", press.wash(1) ? 1 : 0, model.wash(1) ? 1 : 0);
        planAndCompare(1);
        planAndCompare(0);
    }
}
