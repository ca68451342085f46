/** Charges of heats at least cost in whole bundles; the document's numbered promises say what each call does. */
public final class ChargePlans {
    private static final int MOST_GOODS = 5;
    private static final int MOST_HEATS = 4;
    private static final int ELEMENTS = 4;
    private static final int MOST_KILOS = 1000;
    private static final int MOST_CENTS = 100000;
    private static final int MOST_STOCK = 6;
    private static final int MOST_WEIGHT = 100000;
    private static final int MOST_SHARE = 10000;
    private static final int MOST_BUNDLES = 30;
    private static final int MOST_STEPS = 100000;

    private static final int RULES = 11;
    private static final int LOW_WEIGHT_RULE = 0;
    private static final int HIGH_WEIGHT_RULE = 1;
    private static final int FIRST_ELEMENT_RULE = 2;
    private static final int BUNDLES_RULE = 10;

    private static final int NONE = -1;
    /** Far above what two numbers below 2^31 can need in Euclid's way. */
    private static final int DIVISOR_ROUNDS = 100;

    private final Goods goods;
    private final Heats heats;
    private final Planning planning;
    private final Clashing clashing;

    public ChargePlans() {
        goods = new Goods();
        heats = new Heats();
        planning = new Planning();
        clashing = new Clashing();
    }

    public int good(int kilos, int cents, int stock) throws IllegalStateException, IllegalArgumentException {
        requireTurn(goods.count < MOST_GOODS);
        requireRange(kilos, 1, MOST_KILOS);
        requireRange(cents, 0, MOST_CENTS);
        requireRange(stock, 0, MOST_STOCK);
        return goods.append(kilos, cents, stock);
    }

    public void element(int good, int element, int low, int high)
            throws IndexOutOfBoundsException, IllegalArgumentException {
        requireIndex(good, goods.count);
        requireIndex(element, ELEMENTS);
        requireSpan(low, high, 0, MOST_SHARE);
        goods.lowShare[good * ELEMENTS + element] = low;
        goods.highShare[good * ELEMENTS + element] = high;
    }

    public void limit(int good, int most) throws IndexOutOfBoundsException, IllegalArgumentException {
        requireIndex(good, goods.count);
        requireRange(most, 0, MOST_STOCK);
        goods.limit[good] = most;
    }

    public int arrive(int good, int n)
            throws IndexOutOfBoundsException, IllegalArgumentException, UnsupportedOperationException {
        requireIndex(good, goods.count);
        requireArgument(n >= 0);
        // Compared this way round because stock + n could wrap.
        requireMeaning(n <= MOST_STOCK - goods.stock[good]);
        goods.stock[good] += n;
        return goods.stock[good];
    }

    public int heat(int low, int high) throws IllegalStateException, IllegalArgumentException {
        requireTurn(heats.count < MOST_HEATS);
        requireSpan(low, high, 1, MOST_WEIGHT);
        return heats.append(low, high);
    }

    public void span(int heat, int element, int low, int high)
            throws IndexOutOfBoundsException, IllegalArgumentException {
        requireIndex(heat, heats.count);
        requireIndex(element, ELEMENTS);
        requireSpan(low, high, 0, MOST_SHARE);
        heats.lowShare[heat * ELEMENTS + element] = low;
        heats.highShare[heat * ELEMENTS + element] = high;
    }

    public void most(int heat, int n) throws IndexOutOfBoundsException, IllegalArgumentException {
        requireIndex(heat, heats.count);
        requireRange(n, 0, MOST_BUNDLES);
        heats.mostBundles[heat] = n;
    }

    public int plan(int heat, int steps) throws IndexOutOfBoundsException, IllegalArgumentException {
        requireIndex(heat, heats.count);
        requireRange(steps, 0, MOST_STEPS);
        planning.search(goods, heats, heat, steps);
        heats.keepPlan(heat, planning.best, planning.bestCents);
        return planning.bestCents;
    }

    public int planned(int what) throws IndexOutOfBoundsException, IllegalStateException {
        requireIndex(what, 2);
        requireTurn(planning.done);
        if (what == 1) {
            return planning.steps;
        }
        return planning.spent ? 1 : 0;
    }

    public int amount(int heat, int good) throws IndexOutOfBoundsException, IllegalStateException {
        requireIndex(heat, heats.count);
        requireIndex(good, goods.count);
        requireTurn(heats.hasPlan(heat));
        return heats.bundles[heat * MOST_GOODS + good];
    }

    public long worst(int heat, int element, int end, int part)
            throws IndexOutOfBoundsException, IllegalStateException, UnsupportedOperationException {
        requireIndex(heat, heats.count);
        requireIndex(element, ELEMENTS);
        requireIndex(end, 2);
        requireIndex(part, 2);
        requireTurn(heats.hasPlan(heat));
        long lower = plannedKilos(heat);
        requireMeaning(lower > 0);
        long upper = plannedShares(heat, element, end == 0 ? goods.lowShare : goods.highShare);
        return (part == 0 ? upper : lower) / commonDivisor(upper, lower);
    }

    public long bound(int heat) throws IndexOutOfBoundsException, UnsupportedOperationException {
        requireIndex(heat, heats.count);
        long least = NONE;
        for (int good = 0; good < goods.count; good++) {
            long kilos = goods.kilos[good];
            if (goods.room(good) > 0 && kilos > 0) {
                long cents = ((long) heats.low[heat] * goods.cents[good] + kilos - 1) / kilos;
                // Rounding up keeps the order, so the least of the rounded ones is the least one rounded.
                least = least == NONE ? cents : Math.min(least, cents);
            }
        }
        requireMeaning(least != NONE);
        return least;
    }

    public int clash(int heat) throws IndexOutOfBoundsException {
        requireIndex(heat, heats.count);
        return clashing.find(goods, heats, heat);
    }

    public int take(int heat)
            throws IndexOutOfBoundsException, IllegalStateException, UnsupportedOperationException {
        requireIndex(heat, heats.count);
        requireTurn(heats.hasPlan(heat));
        requireMeaning(enoughLeft(heat));
        for (int good = 0; good < goods.count; good++) {
            goods.stock[good] -= heats.bundles[heat * MOST_GOODS + good];
        }
        int cents = heats.planCents[heat];
        heats.planCents[heat] = NONE;
        return cents;
    }

    public int stock(int good) throws IndexOutOfBoundsException {
        requireIndex(good, goods.count);
        return goods.stock[good];
    }

    private boolean enoughLeft(int heat) {
        for (int good = 0; good < goods.count; good++) {
            if (goods.stock[good] < heats.bundles[heat * MOST_GOODS + good]) {
                return false;
            }
        }
        return true;
    }

    private long plannedKilos(int heat) {
        long kilos = 0;
        for (int good = 0; good < goods.count; good++) {
            kilos += (long) heats.bundles[heat * MOST_GOODS + good] * goods.kilos[good];
        }
        return kilos;
    }

    private long plannedShares(int heat, int element, int[] shares) {
        long sum = 0;
        for (int good = 0; good < goods.count; good++) {
            long kilos = (long) heats.bundles[heat * MOST_GOODS + good] * goods.kilos[good];
            sum += kilos * shares[good * ELEMENTS + element];
        }
        return sum;
    }

    private static long commonDivisor(long upper, long lower) {
        long a = upper;
        long b = lower;
        for (int round = 0; round < DIVISOR_ROUNDS && b != 0; round++) {
            long rest = a % b;
            a = b;
            b = rest;
        }
        // The caller divides by it, so it is never 0.
        return Math.max(a, 1L);
    }

    private static void requireIndex(int index, int count) {
        if (index < 0 || index >= count) {
            throw new IndexOutOfBoundsException("no such number");
        }
    }

    private static void requireTurn(boolean inTurn) {
        if (!inTurn) {
            throw new IllegalStateException("the call is out of turn");
        }
    }

    private static void requireArgument(boolean inRange) {
        if (!inRange) {
            throw new IllegalArgumentException("a value is out of its range");
        }
    }

    private static void requireRange(int value, int least, int most) {
        requireArgument(value >= least && value <= most);
    }

    private static void requireSpan(int low, int high, int least, int most) {
        requireRange(low, least, most);
        requireRange(high, low, most);
    }

    private static void requireMeaning(boolean hasMeaning) {
        if (!hasMeaning) {
            throw new UnsupportedOperationException("the call has no meaning here");
        }
    }

    /** The goods, a row for each of their numbers. */
    private static final class Goods {
        private int count;
        private final int[] kilos = new int[MOST_GOODS];
        private final int[] cents = new int[MOST_GOODS];
        private final int[] stock = new int[MOST_GOODS];
        private final int[] limit = new int[MOST_GOODS];
        private final int[] lowShare = new int[MOST_GOODS * ELEMENTS];
        private final int[] highShare = new int[MOST_GOODS * ELEMENTS];

        private int append(int newKilos, int newCents, int newStock) {
            int added = count;
            kilos[added] = newKilos;
            cents[added] = newCents;
            stock[added] = newStock;
            limit[added] = MOST_STOCK;
            count++;
            return added;
        }

        /** The most bundles of a good that a charge may take. */
        private int room(int good) {
            return Math.min(stock[good], limit[good]);
        }
    }

    /** The heats and their plans, a row for each of their numbers. */
    private static final class Heats {
        private int count;
        private final int[] low = new int[MOST_HEATS];
        private final int[] high = new int[MOST_HEATS];
        private final int[] lowShare = new int[MOST_HEATS * ELEMENTS];
        private final int[] highShare = new int[MOST_HEATS * ELEMENTS];
        private final int[] mostBundles = new int[MOST_HEATS];
        private final int[] planCents = new int[MOST_HEATS];
        private final int[] bundles = new int[MOST_HEATS * MOST_GOODS];

        private int append(int newLow, int newHigh) {
            int added = count;
            low[added] = newLow;
            high[added] = newHigh;
            for (int element = 0; element < ELEMENTS; element++) {
                highShare[added * ELEMENTS + element] = MOST_SHARE;
            }
            mostBundles[added] = MOST_BUNDLES;
            planCents[added] = NONE;
            count++;
            return added;
        }

        private boolean hasPlan(int heat) {
            return planCents[heat] != NONE;
        }

        private void keepPlan(int heat, int[] charge, int cents) {
            planCents[heat] = cents;
            for (int good = 0; good < MOST_GOODS; good++) {
                bundles[heat * MOST_GOODS + good] = charge[good];
            }
        }
    }

    /**
     * The sums of a charge while it is put together, a row for each number of goods that are settled.
     * Each rule is a sum over bundles that may not be above 0, so all rules are added up and tested alike.
     */
    private static final class Sums {
        private static final int CENTS = RULES;
        private static final int WIDTH = RULES + 1;

        private int goodCount;
        private final int[] room = new int[MOST_GOODS];
        private final int[] perBundle = new int[MOST_GOODS * WIDTH];
        private final int[] rows = new int[(MOST_GOODS + 1) * WIDTH];

        private void load(Goods goods, Heats heats, int heat) {
            goodCount = goods.count;
            rows[LOW_WEIGHT_RULE] = heats.low[heat];
            rows[HIGH_WEIGHT_RULE] = -heats.high[heat];
            rows[BUNDLES_RULE] = -heats.mostBundles[heat];
            for (int good = 0; good < goodCount; good++) {
                room[good] = goods.room(good);
                perBundle[good * WIDTH + LOW_WEIGHT_RULE] = -goods.kilos[good];
                perBundle[good * WIDTH + HIGH_WEIGHT_RULE] = goods.kilos[good];
                perBundle[good * WIDTH + BUNDLES_RULE] = 1;
                perBundle[good * WIDTH + CENTS] = goods.cents[good];
                loadElements(goods, heats, good, heat);
            }
        }

        private void loadElements(Goods goods, Heats heats, int good, int heat) {
            for (int element = 0; element < ELEMENTS; element++) {
                int ofGood = good * ELEMENTS + element;
                int ofHeat = heat * ELEMENTS + element;
                int rule = good * WIDTH + FIRST_ELEMENT_RULE + 2 * element;
                perBundle[rule] = goods.kilos[good] * (goods.highShare[ofGood] - heats.highShare[ofHeat]);
                perBundle[rule + 1] = goods.kilos[good] * (heats.lowShare[ofHeat] - goods.lowShare[ofGood]);
            }
        }

        /** Settles a good at 0 bundles. */
        private void settle(int good) {
            int from = good * WIDTH;
            for (int column = 0; column < WIDTH; column++) {
                rows[from + WIDTH + column] = rows[from + column];
            }
        }

        private void addBundle(int good) {
            int from = good * WIDTH;
            for (int column = 0; column < WIDTH; column++) {
                rows[from + WIDTH + column] += perBundle[from + column];
            }
        }

        private int cents(int settled) {
            return rows[settled * WIDTH + CENTS];
        }

        private boolean tooHeavy(int settled) {
            return rows[settled * WIDTH + HIGH_WEIGHT_RULE] > 0;
        }

        /** The rules, as bits, that the charge of all goods breaks. */
        private int broken() {
            int bits = 0;
            for (int rule = 0; rule < RULES; rule++) {
                if (rows[goodCount * WIDTH + rule] > 0) {
                    bits |= 1 << rule;
                }
            }
            return bits;
        }
    }

    /** The planning with steps, and what the latest one found. */
    private static final class Planning {
        private final Sums sums = new Sums();
        private final int[] charge = new int[MOST_GOODS];
        private final int[] best = new int[MOST_GOODS];
        private int bestCents;
        private int allowed;
        private int steps;
        private boolean spent;
        private boolean done;

        private void search(Goods goods, Heats heats, int heat, int allowedSteps) {
            sums.load(goods, heats, heat);
            bestCents = NONE;
            allowed = allowedSteps;
            steps = 0;
            spent = false;
            done = true;
            tryNumbers(0);
        }

        /** Calls itself for the next good: at most one level for each good and one for the whole charge. */
        private void tryNumbers(int good) {
            if (good >= sums.goodCount) {
                keepIfAllHold();
                return;
            }
            sums.settle(good);
            for (int number = 0; number <= sums.room[good]; number++) {
                if (steps >= allowed) {
                    spent = true;
                    return;
                }
                steps++;
                if (number > 0) {
                    sums.addBundle(good);
                }
                charge[good] = number;
                if (!givenUp(good + 1)) {
                    tryNumbers(good + 1);
                }
            }
        }

        private boolean givenUp(int settled) {
            return sums.tooHeavy(settled) || bestCents != NONE && sums.cents(settled) >= bestCents;
        }

        /** What comes here is cheaper than the best so far: dearer ones were given up on the way. */
        private void keepIfAllHold() {
            if (sums.broken() != 0) {
                return;
            }
            bestCents = sums.cents(sums.goodCount);
            for (int good = 0; good < MOST_GOODS; good++) {
                best[good] = charge[good];
            }
        }
    }

    /** The search for a clash: all charges are walked once, and only the sets of rules that they break are kept. */
    private static final class Clashing {
        private static final int SETS = 1 << RULES;
        private static final int WORD_BITS = 64;

        private final Sums sums = new Sums();
        /** A bit for each set of rules: whether some charge breaks these and no others. */
        private final long[] seen = new long[SETS / WORD_BITS];
        private boolean allHold;

        private int find(Goods goods, Heats heats, int heat) {
            sums.load(goods, heats, heat);
            for (int word = 0; word < seen.length; word++) {
                seen[word] = 0;
            }
            allHold = false;
            walk(0);
            if (allHold) {
                return 0;
            }
            int left = SETS - 1;
            for (int rule = 0; rule < RULES; rule++) {
                int without = left & ~(1 << rule);
                if (!someChargeHolds(without)) {
                    left = without;
                }
            }
            return left;
        }

        /** Calls itself for the next good: at most one level for each good and one for the whole charge. */
        private void walk(int good) {
            if (good >= sums.goodCount) {
                int broken = sums.broken();
                seen[broken / WORD_BITS] |= 1L << broken % WORD_BITS;
                allHold = allHold || broken == 0;
                return;
            }
            sums.settle(good);
            for (int number = 0; number <= sums.room[good] && !allHold; number++) {
                if (number > 0) {
                    sums.addBundle(good);
                }
                walk(good + 1);
            }
        }

        private boolean someChargeHolds(int rules) {
            for (int broken = 0; broken < SETS; broken++) {
                if ((broken & rules) == 0 && (seen[broken / WORD_BITS] >>> broken % WORD_BITS & 1L) != 0) {
                    return true;
                }
            }
            return false;
        }
    }
}
