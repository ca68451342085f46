/** The rules of 'Terms' at their edges: each holds where both sides are the same, and is broken one further. */
public final class RulesEdgesTest {
    public static void main(String[] args) {
        rule0NotBelowTheLowWeight();
        rule1NotAboveTheHighWeight();
        highSharesNotAbove();
        lowSharesNotBelow();
        sharesOneUnitOff();
        rule10NotMoreThanMost();
        chargeWithoutBundlesBreaksRule0Alone();
        largestSums();
        Check.end();
    }

    private static void expect(String what, ChargePlans plans, int cents, int clash) {
        Check.equal(what + ": plan", cents, plans.plan(0, Yard.STEPS));
        Check.equal(what + ": clash", clash, plans.clash(0));
    }

    private static ChargePlans sixBundlesOf10(int low, int high) {
        ChargePlans plans = new ChargePlans();
        plans.good(10, 1, 6);
        plans.heat(low, high);
        return plans;
    }

    private static void rule0NotBelowTheLowWeight() {
        expect("60 kilos from 60", sixBundlesOf10(60, 100), 6, 0);
        expect("60 kilos from 61", sixBundlesOf10(61, 100), -1, 1);
        expect("60 kilos from 59", sixBundlesOf10(59, 100), 6, 0);
    }

    private static void rule1NotAboveTheHighWeight() {
        expect("10 kilos to 10", sixBundlesOf10(1, 10), 1, 0);
        expect("10 kilos to 9", sixBundlesOf10(1, 9), -1, 3);
        expect("10 kilos to 11", sixBundlesOf10(1, 11), 1, 0);
    }

    /** Goods of 10 and 30 kilos, both needed: a quarter of the one share and three of the other. */
    private static ChargePlans quarters(int element, int low, int high) {
        ChargePlans plans = new ChargePlans();
        plans.good(10, 1, 1);
        plans.good(30, 1, 1);
        plans.heat(40, 40);
        plans.element(0, element, low, high);
        plans.element(1, element, low + 40, high + 40);
        return plans;
    }

    private static void highSharesNotAbove() {
        for (int element = 0; element < 4; element++) {
            ChargePlans plans = quarters(element, 0, 100);
            plans.span(0, element, 0, 130);
            expect("high share 130 of 130", plans, 2, 0);
            plans.span(0, element, 0, 129);
            expect("high share 130 of 129", plans, -1, 1 | 1 << 2 + 2 * element);
            plans.span(0, element, 0, 131);
            expect("high share 130 of 131", plans, 2, 0);
            plans.span(0, (element + 1) % 4, 0, 0);
            expect("no share of another element", plans, 2, 0);
        }
    }

    private static void lowSharesNotBelow() {
        for (int element = 0; element < 4; element++) {
            ChargePlans plans = quarters(element, 100, 9000);
            plans.span(0, element, 130, 10000);
            expect("low share 130 of 130", plans, 2, 0);
            plans.span(0, element, 131, 10000);
            expect("low share 130 of 131", plans, -1, 1 | 1 << 3 + 2 * element);
            plans.span(0, element, 129, 10000);
            expect("low share 130 of 129", plans, 2, 0);
        }
    }

    /** The sums are compared as they are: one kilo with one share too much among the most kilos breaks the rule. */
    private static void sharesOneUnitOff() {
        for (int off = -1; off <= 1; off++) {
            ChargePlans plans = new ChargePlans();
            for (int good = 0; good < 4; good++) {
                plans.good(1000, 1, 6);
                plans.element(good, 1, 5000, 5000);
            }
            plans.good(1, 1, 1);
            plans.element(4, 1, 5000 + off, 5000 + off);
            plans.heat(24001, 24001);
            plans.span(0, 1, 0, 5000);
            expect("high sum off by " + off, plans, off > 0 ? -1 : 25, off > 0 ? 1 | 1 << 4 : 0);
            plans.span(0, 1, 5000, 10000);
            expect("low sum off by " + off, plans, off < 0 ? -1 : 25, off < 0 ? 1 | 1 << 5 : 0);
        }
    }

    private static void rule10NotMoreThanMost() {
        ChargePlans plans = sixBundlesOf10(60, 60);
        plans.most(0, 6);
        expect("6 bundles by most 6", plans, 6, 0);
        plans.most(0, 5);
        expect("6 bundles by most 5", plans, -1, 1 | 1 << 10);
        plans.most(0, 7);
        expect("6 bundles by most 7", plans, 6, 0);
    }

    /** Of no kilos each sum of shares is 0, which is neither above nor below 0. */
    private static void chargeWithoutBundlesBreaksRule0Alone() {
        ChargePlans plans = new ChargePlans();
        plans.good(1, 0, 0);
        plans.element(0, 0, 10000, 10000);
        plans.heat(1, 1);
        for (int element = 0; element < 4; element++) {
            plans.span(0, element, 0, 0);
        }
        plans.most(0, 0);
        expect("no bundles, high shares of 0", plans, -1, 1);
        for (int element = 0; element < 4; element++) {
            plans.span(0, element, 10000, 10000);
        }
        expect("no bundles, low shares of 10000", plans, -1, 1);
    }

    private static void largestSums() {
        ChargePlans plans = new ChargePlans();
        for (int good = 0; good < 5; good++) {
            plans.good(1000, 100000, 6);
            plans.element(good, 3, 10000, 10000);
        }
        plans.heat(30000, 100000);
        plans.span(0, 3, 10000, 10000);
        expect("the largest sums, all the same", plans, 3000000, 0);
        plans.span(0, 3, 0, 0);
        expect("the largest sum of high shares", plans, -1, 1 | 1 << 8);
        for (int good = 0; good < 5; good++) {
            plans.element(good, 3, 0, 0);
        }
        plans.span(0, 3, 10000, 10000);
        expect("the largest lack of low shares", plans, -1, 1 | 1 << 9);
    }
}
