import java.util.Random;

/**
 * Runs of chosen calls, the same each time: an object gets all of them, its twin only those that the first didn't
 * refuse, and no questions. Each call that both get is answered alike, and at the end both tell the same.
 */
final class TwinTest {
    private static final int CALLS = 200;
    private static final int QUESTIONS = 24;
    /** The numbers of calls below QUESTIONS change something, if they aren't refused. */
    private static final int KINDS = 31;
    private static final int[] ODD = {Integer.MIN_VALUE, -2, -1, 0, 1, 3, 12, 31, 40, 51, 60, 101, 200, 401, 1000, 5001,
        20001, 50001, 80001, Integer.MAX_VALUE};
    /** What each call's numbers are below, but for some odd ones. */
    private static final int[][] BELOW = {{8, 4}, {5, 3}, {12, 2}, {9}, {12, 2000}, {12, 400, 90}, {3, 1500, 3000},
        {12, 3}, {12}, {3}, {3}, {3, 300}, {3}, {51}, {3, 2, 3000}, {3, 4}, {12}, {4, 30}, {8, 4, 30}, {12}, {8, 3, 30},
        {6}, {11}, {3}, {12, 11}, {8, 3}, {3, 11}, {4, 8}, {8}, {1}, {11}};

    private final Check check;
    private final Random random;
    private final OilPress first = new OilPress();
    private final OilPress twin = new OilPress();
    private final int[] accepted;
    private final int[] refused;

    private TwinTest(Check check, int seed, int[] accepted, int[] refused) {
        this.check = check;
        this.random = new Random(seed);
        this.accepted = accepted;
        this.refused = refused;
    }

    public static void main(String[] args) {
        Check c = new Check();
        int[] accepted = new int[KINDS];
        int[] refused = new int[KINDS];
        int runs = args.length > 0 ? Integer.parseInt(args[0]) : 1500;
        for (int seed = 0; seed < runs; seed++) {
            c.part("run " + seed);
            new TwinTest(c, seed, accepted, refused).go();
        }
        c.part("all runs");
        for (int call = 0; call < QUESTIONS; call++) {
            c.due("call " + call + " was taken at times", accepted[call] > 20, true);
            c.due("call " + call + " was refused at times", refused[call] > 20, true);
        }
        c.end();
    }

    private void go() {
        int seed = random.nextInt();
        setUp(first, new Random(seed));
        setUp(twin, new Random(seed));
        for (int i = 0; i < CALLS; i++) {
            int call = random.nextInt(4) == 0 ? random.nextInt(KINDS) : usual();
            int a = number(call, 0);
            int b = number(call, 1);
            int d = number(call, 2);
            int answer = ask(first, call, a, b, d);
            if (call >= QUESTIONS) {
                continue;
            }
            if (isRefused(call, answer)) {
                refused[call]++;
            } else {
                accepted[call]++;
                String told = "call " + i + " of kind " + call + " (" + a + ", " + b + ", " + d + ")";
                check.due(told, ask(twin, call, a, b, d), answer);
            }
        }
        check.due("what both tell", Sight.of(twin).equals(Sight.of(first)), true);
    }

    private static void setUp(OilPress x, Random random) {
        for (int i = 0; i < 3; i++) {
            x.grove(i, i / 2);
            x.mill(i, 100, 2000);
            x.vat(i, random.nextInt(4) == 0, 5000);
        }
        for (int lot = 0; lot < 10; lot++) {
            Village.sampled(x, random.nextInt(5), random.nextInt(3), 1 + random.nextInt(100), 100, random.nextInt(90));
            x.wish(lot, random.nextInt(3) > 0);
        }
    }

    /** The calls by which olives become oil. */
    private int usual() {
        int[] usual = {1, 2, 3, 4, 4, 5, 5, 7, 7, 10, 10, 11, 11, 12, 12, 14, 15, 15, 16, 17, 18, 18, 19, 19, 20, 21, 21};
        return usual[random.nextInt(usual.length)];
    }

    private int number(int call, int i) {
        if (random.nextInt(25) == 0) {
            return ODD[random.nextInt(ODD.length)];
        }
        return i < BELOW[call].length ? random.nextInt(BELOW[call][i]) : 0;
    }

    /** A boolean is 0 or 1. Not measured (-3) isn't refused: it uses a place. */
    private static boolean isRefused(int call, int answer) {
        boolean isBoolean = call >= 2 && call <= 3 || call == 5 || call == 6 || call == 8 || call == 9 || call == 11
                || call == 13 || call == 22;
        return isBoolean ? answer == 0 : answer == -1 || call == 4 && answer == -2;
    }

    private static int ask(OilPress x, int call, int a, int b, int d) {
        switch (call) {
            case 0: return x.grove(a, b);
            case 1: return x.lot(a, b);
            case 2: return Sight.asNumber(x.wish(a, b == 1));
            case 3: return Sight.asNumber(x.scale(a));
            case 4: return x.weigh(a, b);
            case 5: return Sight.asNumber(x.sample(a, b, d));
            case 6: return Sight.asNumber(x.mill(a, b, d));
            case 7: return x.put(a, b);
            case 8: return Sight.asNumber(x.take(a));
            case 9: return Sight.asNumber(x.wash(a));
            case 10: return x.press(a);
            case 11: return Sight.asNumber(x.gave(a, b));
            case 12: return x.share(a);
            case 13: return Sight.asNumber(x.keep(a));
            case 14: return x.vat(a, b == 1, d);
            case 15: return x.pour(a, b);
            case 16: return x.fetch(a);
            case 17: return x.draw(a, b);
            case 18: return x.lend(a, b, d);
            case 19: return x.pay(a);
            case 20: return x.hand(a, b, d);
            case 21: return x.wait(a);
            case 22: return Sight.asNumber(x.fresh(a));
            case 23: return x.plan(a);
            default: return question(x, call, a, b);
        }
    }

    private static int question(OilPress x, int call, int a, int b) {
        switch (call) {
            case 24: return x.told(a, b);
            case 25: return x.owes(a, b);
            case 26: return x.at(a, b);
            case 27: return x.held(a, b);
            case 28: return x.planned(a);
            case 29: return x.balance();
            default: return x.count(a);
        }
    }
}
