import java.util.ArrayList;
import java.util.List;

/** The document once more, as plainly as it can be written, to compare long runs with. */
final class Reference {
    private final List<Good> goods = new ArrayList<>();
    private final List<Heat> heats = new ArrayList<>();
    private boolean anyPlanning;
    private boolean spent;
    private int steps;

    private static final class Good {
        int kilos;
        int cents;
        int stock;
        int limit = 6;
        int[] low = new int[4];
        int[] high = new int[4];
    }

    private static final class Heat {
        int low;
        int high;
        int[] lows = new int[4];
        int[] highs = {10000, 10000, 10000, 10000};
        int most = 30;
        int[] plan;
    }

    int good(int kilos, int cents, int stock) {
        turn(goods.size() < 5);
        range(1 <= kilos && kilos <= 1000 && 0 <= cents && cents <= 100000 && 0 <= stock && stock <= 6);
        Good good = new Good();
        good.kilos = kilos;
        good.cents = cents;
        good.stock = stock;
        goods.add(good);
        return goods.size() - 1;
    }

    void element(int good, int element, int low, int high) {
        index(isGood(good) && 0 <= element && element < 4);
        range(0 <= low && low <= high && high <= 10000);
        goods.get(good).low[element] = low;
        goods.get(good).high[element] = high;
    }

    void limit(int good, int most) {
        index(isGood(good));
        range(0 <= most && most <= 6);
        goods.get(good).limit = most;
    }

    int arrive(int good, int n) {
        index(isGood(good));
        range(n >= 0);
        meaning((long) goods.get(good).stock + n <= 6);
        return goods.get(good).stock += n;
    }

    int heat(int low, int high) {
        turn(heats.size() < 4);
        range(1 <= low && low <= high && high <= 100000);
        Heat heat = new Heat();
        heat.low = low;
        heat.high = high;
        heats.add(heat);
        return heats.size() - 1;
    }

    void span(int heat, int element, int low, int high) {
        index(isHeat(heat) && 0 <= element && element < 4);
        range(0 <= low && low <= high && high <= 10000);
        heats.get(heat).lows[element] = low;
        heats.get(heat).highs[element] = high;
    }

    void most(int heat, int n) {
        index(isHeat(heat));
        range(0 <= n && n <= 30);
        heats.get(heat).most = n;
    }

    int plan(int heat, int allowed) {
        index(isHeat(heat));
        range(0 <= allowed && allowed <= 100000);
        Heat of = heats.get(heat);
        anyPlanning = true;
        spent = false;
        steps = 0;
        of.plan = null;
        go(of, new int[0], allowed);
        if (!spent) {
            Check.isTrue("planning to the end finds the plan", same(of.plan, leastCharge(of)));
        }
        return of.plan == null ? -1 : cents(of.plan);
    }

    private void go(Heat heat, int[] charge, int allowed) {
        if (charge.length == goods.size()) {
            if (holds(heat, charge, 2047)) {
                heat.plan = charge;
            }
            return;
        }
        for (int n = 0; n <= room(charge.length) && !spent; n++) {
            if (steps == allowed) {
                spent = true;
            } else {
                steps++;
                int[] more = with(charge, n);
                boolean dear = heat.plan != null && cents(more) >= cents(heat.plan);
                if (!dear && kilos(more) <= heat.high) {
                    go(heat, more, allowed);
                }
            }
        }
    }

    private int[] leastCharge(Heat heat) {
        int[] least = null;
        for (int[] charge : charges()) {
            if (holds(heat, charge, 2047) && (least == null || cents(charge) < cents(least))) {
                least = charge;
            }
        }
        return least;
    }

    int planned(int what) {
        index(what == 0 || what == 1);
        turn(anyPlanning);
        return what == 1 ? steps : spent ? 1 : 0;
    }

    int amount(int heat, int good) {
        index(isHeat(heat) && isGood(good));
        turn(heats.get(heat).plan != null);
        int[] plan = heats.get(heat).plan;
        return good < plan.length ? plan[good] : 0;
    }

    long worst(int heat, int element, int end, int part) {
        index(isHeat(heat) && 0 <= element && element < 4 && 0 <= end && end < 2 && 0 <= part && part < 2);
        turn(heats.get(heat).plan != null);
        int[] plan = heats.get(heat).plan;
        meaning(kilos(plan) > 0);
        long upper = shares(plan, element, end == 1);
        long lower = kilos(plan);
        for (long divisor = lower; divisor > 1; divisor--) {
            if (upper % divisor == 0 && lower % divisor == 0) {
                return (part == 0 ? upper : lower) / divisor;
            }
        }
        return part == 0 ? upper : lower;
    }

    long bound(int heat) {
        index(isHeat(heat));
        Good cheapest = null;
        for (Good good : goods) {
            boolean there = good.stock > 0 && good.limit > 0;
            if (there && (cheapest == null || isCheaper(good, cheapest))) {
                cheapest = good;
            }
        }
        meaning(cheapest != null);
        long total = (long) heats.get(heat).low * cheapest.cents;
        long whole = total / cheapest.kilos;
        return whole * cheapest.kilos == total ? whole : whole + 1;
    }

    private static boolean isCheaper(Good one, Good other) {
        return (long) one.cents * other.kilos < (long) other.cents * one.kilos;
    }

    int clash(int heat) {
        index(isHeat(heat));
        int left = 2047;
        if (someHolds(heats.get(heat), left)) {
            return 0;
        }
        for (int rule = 0; rule <= 10; rule++) {
            if (!someHolds(heats.get(heat), left & ~(1 << rule))) {
                left &= ~(1 << rule);
            }
        }
        return left;
    }

    int take(int heat) {
        index(isHeat(heat));
        int[] plan = heats.get(heat).plan;
        turn(plan != null);
        for (int good = 0; good < plan.length; good++) {
            meaning(plan[good] <= goods.get(good).stock);
        }
        for (int good = 0; good < plan.length; good++) {
            goods.get(good).stock -= plan[good];
        }
        heats.get(heat).plan = null;
        return cents(plan);
    }

    int stock(int good) {
        index(isGood(good));
        return goods.get(good).stock;
    }

    int goodCount() {
        return goods.size();
    }

    int heatCount() {
        return heats.size();
    }

    private boolean someHolds(Heat heat, int rules) {
        for (int[] charge : charges()) {
            if (holds(heat, charge, rules)) {
                return true;
            }
        }
        return false;
    }

    private boolean holds(Heat heat, int[] charge, int rules) {
        for (int rule = 0; rule <= 10; rule++) {
            if ((rules >> rule & 1) == 1 && !ruleHolds(heat, charge, rule)) {
                return false;
            }
        }
        return true;
    }

    private boolean ruleHolds(Heat heat, int[] charge, int rule) {
        if (rule == 0) {
            return kilos(charge) >= heat.low;
        }
        if (rule == 1) {
            return kilos(charge) <= heat.high;
        }
        if (rule == 10) {
            int bundles = 0;
            for (int n : charge) {
                bundles += n;
            }
            return bundles <= heat.most;
        }
        int element = (rule - 2) / 2;
        if (rule % 2 == 0) {
            return shares(charge, element, true) <= (long) heat.highs[element] * kilos(charge);
        }
        return shares(charge, element, false) >= (long) heat.lows[element] * kilos(charge);
    }

    /** All charges, the first one by goods first. */
    private List<int[]> charges() {
        List<int[]> all = new ArrayList<>();
        all.add(new int[0]);
        for (int good = 0; good < goods.size(); good++) {
            List<int[]> longer = new ArrayList<>();
            for (int[] charge : all) {
                for (int n = 0; n <= room(good); n++) {
                    longer.add(with(charge, n));
                }
            }
            all = longer;
        }
        return all;
    }

    private int room(int good) {
        return Math.min(goods.get(good).stock, goods.get(good).limit);
    }

    private static int[] with(int[] charge, int n) {
        int[] more = java.util.Arrays.copyOf(charge, charge.length + 1);
        more[charge.length] = n;
        return more;
    }

    private static boolean same(int[] one, int[] other) {
        return java.util.Arrays.equals(one, other);
    }

    private int cents(int[] charge) {
        int sum = 0;
        for (int good = 0; good < charge.length; good++) {
            sum += charge[good] * goods.get(good).cents;
        }
        return sum;
    }

    private int kilos(int[] charge) {
        int sum = 0;
        for (int good = 0; good < charge.length; good++) {
            sum += charge[good] * goods.get(good).kilos;
        }
        return sum;
    }

    private long shares(int[] charge, int element, boolean high) {
        long sum = 0;
        for (int good = 0; good < charge.length; good++) {
            int[] row = high ? goods.get(good).high : goods.get(good).low;
            sum += (long) charge[good] * goods.get(good).kilos * row[element];
        }
        return sum;
    }

    private boolean isGood(int good) {
        return 0 <= good && good < goods.size();
    }

    private boolean isHeat(int heat) {
        return 0 <= heat && heat < heats.size();
    }

    private static void index(boolean right) {
        if (!right) {
            throw new IndexOutOfBoundsException();
        }
    }

    private static void turn(boolean right) {
        if (!right) {
            throw new IllegalStateException();
        }
    }

    private static void range(boolean right) {
        if (!right) {
            throw new IllegalArgumentException();
        }
    }

    private static void meaning(boolean right) {
        if (!right) {
            throw new UnsupportedOperationException();
        }
    }
}
