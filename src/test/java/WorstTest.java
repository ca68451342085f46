/** Promise 12: worst. */
public final class WorstTest {
    public static void main(String[] args) {
        lowestTerms();
        allElements();
        sharesAsTheyAreNow();
        largestSums();
        Check.end();
    }

    private static void expect(ChargePlans plans, int element, int end, long upper, long lower) {
        Check.equal("upper of element " + element + " end " + end, upper, plans.worst(0, element, end, 0));
        Check.equal("lower of element " + element + " end " + end, lower, plans.worst(0, element, end, 1));
    }

    private static void lowestTerms() {
        ChargePlans plans = Yard.make();
        plans.plan(0, Yard.STEPS);
        expect(plans, 0, 0, 1300, 7);
        expect(plans, 0, 1, 2300, 7);
        expect(plans, 3, 0, 0, 1);
        expect(plans, 3, 1, 0, 1);
        plans.span(0, 0, 0, 100);
        plans.plan(0, Yard.STEPS);
        expect(plans, 0, 0, 10, 1);
        expect(plans, 0, 1, 20, 1);
    }

    private static void allElements() {
        ChargePlans plans = new ChargePlans();
        plans.good(7, 1, 1);
        plans.good(6, 1, 1);
        plans.heat(13, 13);
        for (int element = 0; element < 4; element++) {
            plans.element(0, element, element, element + 1);
            plans.element(1, element, 0, 10);
        }
        plans.plan(0, Yard.STEPS);
        expect(plans, 0, 0, 0, 1);
        expect(plans, 0, 1, 67, 13);
        expect(plans, 1, 0, 7, 13);
        expect(plans, 1, 1, 74, 13);
        expect(plans, 2, 0, 14, 13);
        expect(plans, 2, 1, 81, 13);
        expect(plans, 3, 0, 21, 13);
        expect(plans, 3, 1, 88, 13);
    }

    private static void sharesAsTheyAreNow() {
        ChargePlans plans = Yard.make();
        plans.plan(0, Yard.STEPS);
        plans.element(1, 2, 7, 14);
        // 120 of the plan's 210 kilos are of good 1.
        expect(plans, 2, 0, 4, 1);
        expect(plans, 2, 1, 8, 1);
    }

    private static void largestSums() {
        ChargePlans plans = new ChargePlans();
        for (int good = 0; good < 5; good++) {
            plans.good(good == 4 ? 999 : 1000, 1, 6);
            plans.element(good, 0, good == 4 ? 9999 : 10000, 10000);
        }
        plans.heat(29000, 30000);
        plans.plan(0, Yard.STEPS);
        expect(plans, 0, 1, 10000, 1);
        // 24 bundles of 1,000 kilos and 5 of 999 are too light, so all 30 are in the charge.
        expect(plans, 0, 0, (24L * 1000 * 10000 + 6L * 999 * 9999) / 6, 29994 / 6);
    }
}
