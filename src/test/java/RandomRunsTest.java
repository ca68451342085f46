import java.util.Arrays;
import java.util.Random;

/** All promises: runs of calls by a fixed seed, each answer and refusal compared with the plain reference. */
public final class RandomRunsTest {
    private static final int RUNS = 1500;
    /** With the looks after each call and at the end a run stays below the document's 512 calls. */
    private static final int CALLS = 40;
    private static final String[] NAMES = {"good", "element", "limit", "arrive", "heat", "span", "most", "plan",
        "planned", "amount", "worst", "bound", "clash", "take", "stock"};
    /** How often each call comes, in the order of the names. */
    private static final int[] OFTEN = {4, 8, 3, 3, 3, 6, 3, 9, 3, 2, 4, 2, 6, 4, 1};

    private static final int GOOD = 0;
    private static final int HEAT = 4;
    private static final int PLAN = 7;
    private static final int PLANNED = 8;
    private static final int AMOUNT = 9;
    private static final int WORST = 10;
    private static final int BOUND = 11;
    private static final int CLASH = 12;
    private static final int TAKE = 13;
    private static final int STOCK = 14;

    private static final Random RANDOM = new Random(20261115);
    private static int plansFound;
    private static int plansNotFound;
    private static int clashesFound;
    private static int taken;
    private static int clashBits;

    private final ChargePlans real = new ChargePlans();
    private final Reference reference = new Reference();
    private final StringBuilder told = new StringBuilder();
    private final int run;

    private RandomRunsTest(int run) {
        this.run = run;
    }

    public static void main(String[] args) {
        for (int run = 0; run < RUNS; run++) {
            new RandomRunsTest(run).go();
        }
        Check.isTrue("many plans were found: " + plansFound, plansFound > 1000);
        Check.isTrue("many plans were not found: " + plansNotFound, plansNotFound > 1000);
        Check.isTrue("many clashes were found: " + clashesFound, clashesFound > 1000);
        Check.isTrue("many plans were taken: " + taken, taken > 100);
        Check.isTrue("each rule clashed: " + clashBits, clashBits == 2047);
        Check.end();
    }

    private void go() {
        int goods = RANDOM.nextInt(6);
        for (int good = 0; good < goods; good++) {
            both(GOOD, drawn(GOOD));
        }
        for (int heat = RANDOM.nextInt(3); heat > 0; heat--) {
            both(HEAT, drawn(HEAT));
        }
        for (int call = 0; call < CALLS; call++) {
            int what = drawnCall();
            both(what, drawn(what));
            lookBriefly();
        }
        lookAtAll();
    }

    private void lookBriefly() {
        for (int good = 0; good < reference.goodCount(); good++) {
            both(STOCK, good);
        }
        both(PLANNED, RANDOM.nextInt(2));
    }

    private void lookAtAll() {
        for (int heat = 0; heat < reference.heatCount(); heat++) {
            for (int good = 0; good < reference.goodCount(); good++) {
                both(AMOUNT, heat, good);
            }
            for (int bits = 0; bits < 16; bits++) {
                both(WORST, heat, bits >> 2, bits >> 1 & 1, bits & 1);
            }
            both(BOUND, heat);
            both(CLASH, heat);
            both(PLAN, heat, Yard.STEPS);
        }
    }

    private static int drawnCall() {
        int left = RANDOM.nextInt(Arrays.stream(OFTEN).sum());
        int what = 0;
        while (left >= OFTEN[what]) {
            left -= OFTEN[what];
            what++;
        }
        return what;
    }

    private int[] drawn(int what) {
        int[] args = drawnRight(what);
        if (RANDOM.nextInt(12) == 0) {
            int[] wrong = {-1, 0, 7, 31, 1001, 10001, 100001, Integer.MAX_VALUE, Integer.MIN_VALUE};
            args[RANDOM.nextInt(args.length)] = wrong[RANDOM.nextInt(wrong.length)];
        }
        return args;
    }

    private int[] drawnRight(int what) {
        int good = any(Math.max(1, reference.goodCount()));
        int heat = any(Math.max(1, reference.heatCount()));
        switch (what) {
            case 0: return new int[] {drawnKilos(), any(3) == 0 ? any(4) : any(500), any(7)};
            case 1: return spanOf(good, any(4), 300);
            case 2: return new int[] {good, any(7)};
            case 3: return new int[] {good, any(4)};
            case 4: return drawnWeights();
            case 5: return spanOf(heat, any(4), 300);
            case 6: return new int[] {heat, any(3) == 0 ? 30 : any(9)};
            case 7: return new int[] {heat, any(3) == 0 ? any(200) : 100000};
            case 8: return new int[] {any(2)};
            case 9: return new int[] {heat, good};
            case 10: return new int[] {heat, any(4), any(2), any(2)};
            case 14: return new int[] {good};
            default: return new int[] {heat};
        }
    }

    private static int any(int below) {
        return RANDOM.nextInt(below);
    }

    private static int drawnKilos() {
        int[] often = {10, 20, 25, 50};
        return any(3) == 0 ? 1 + any(60) : often[any(often.length)];
    }

    private static int[] drawnWeights() {
        int low = 1 + any(any(2) == 0 ? 60 : 250);
        return new int[] {low, low + any(any(2) == 0 ? 10 : 200)};
    }

    private static int[] spanOf(int owner, int element, int below) {
        int low = any(2) == 0 ? 0 : any(below);
        int high = any(4) == 0 ? 10000 : low + any(below);
        return new int[] {owner, element, low, high};
    }

    private void both(int what, int... args) {
        told.append(NAMES[what]).append(Arrays.toString(args)).append(' ');
        Object due = answer(what, args, false);
        Object got = answer(what, args, true);
        if (!due.equals(got)) {
            Check.isTrue("run " + run + ": " + told + "answered " + got + ", due is " + due, false);
        } else {
            Check.isTrue("as due", true);
        }
        count(what, due);
    }

    private static void count(int what, Object due) {
        if (!(due instanceof Long)) {
            return;
        }
        long value = (Long) due;
        plansFound += what == PLAN && value >= 0 ? 1 : 0;
        plansNotFound += what == PLAN && value < 0 ? 1 : 0;
        taken += what == TAKE ? 1 : 0;
        if (what == CLASH && value != 0) {
            clashesFound++;
            clashBits |= (int) value;
        }
    }

    /** The number that a call answers, or the class that it throws. */
    private Object answer(int what, int[] args, boolean ofReal) {
        try {
            return ofReal ? callReal(what, args) : callReference(what, args);
        } catch (RuntimeException e) {
            return e.getClass();
        }
    }

    private long callReal(int what, int[] a) {
        switch (what) {
            case 0: return real.good(a[0], a[1], a[2]);
            case 1: real.element(a[0], a[1], a[2], a[3]); return 0;
            case 2: real.limit(a[0], a[1]); return 0;
            case 3: return real.arrive(a[0], a[1]);
            case 4: return real.heat(a[0], a[1]);
            case 5: real.span(a[0], a[1], a[2], a[3]); return 0;
            case 6: real.most(a[0], a[1]); return 0;
            case 7: return real.plan(a[0], a[1]);
            case 8: return real.planned(a[0]);
            case 9: return real.amount(a[0], a[1]);
            case 10: return real.worst(a[0], a[1], a[2], a[3]);
            case 11: return real.bound(a[0]);
            case 12: return real.clash(a[0]);
            case 13: return real.take(a[0]);
            default: return real.stock(a[0]);
        }
    }

    private long callReference(int what, int[] a) {
        switch (what) {
            case 0: return reference.good(a[0], a[1], a[2]);
            case 1: reference.element(a[0], a[1], a[2], a[3]); return 0;
            case 2: reference.limit(a[0], a[1]); return 0;
            case 3: return reference.arrive(a[0], a[1]);
            case 4: return reference.heat(a[0], a[1]);
            case 5: reference.span(a[0], a[1], a[2], a[3]); return 0;
            case 6: reference.most(a[0], a[1]); return 0;
            case 7: return reference.plan(a[0], a[1]);
            case 8: return reference.planned(a[0]);
            case 9: return reference.amount(a[0], a[1]);
            case 10: return reference.worst(a[0], a[1], a[2], a[3]);
            case 11: return reference.bound(a[0]);
            case 12: return reference.clash(a[0]);
            case 13: return reference.take(a[0]);
            default: return reference.stock(a[0]);
        }
    }
}
