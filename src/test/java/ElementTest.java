/** Promise 3: element. */
public final class ElementTest {
    public static void main(String[] args) {
        sharesAreKeptApart();
        sharesSteerPlans();
        Check.end();
    }

    private static void sharesAreKeptApart() {
        ChargePlans plans = new ChargePlans();
        plans.good(1, 1, 1);
        plans.good(1, 1, 1);
        for (int good = 0; good < 2; good++) {
            for (int element = 0; element < 4; element++) {
                plans.element(good, element, 10 * good + element, 100 + 10 * good + element);
            }
        }
        plans.heat(1, 1);
        for (int good = 0; good < 2; good++) {
            plans.limit(1 - good, 0);
            plans.limit(good, 6);
            plans.plan(0, Yard.STEPS);
            for (int element = 0; element < 4; element++) {
                Check.equal("low share", 10 * good + element, plans.worst(0, element, 0, 0));
                Check.equal("high share", 100 + 10 * good + element, plans.worst(0, element, 1, 0));
            }
        }
    }

    private static void sharesSteerPlans() {
        ChargePlans plans = new ChargePlans();
        plans.good(10, 1, 1);
        plans.good(10, 5, 1);
        plans.heat(10, 10);
        plans.span(0, 2, 0, 50);
        Check.equal("cheap good at first", 1, plans.plan(0, Yard.STEPS));
        plans.element(0, 2, 0, 51);
        Check.equal("cheap good is too rich", 5, plans.plan(0, Yard.STEPS));
        plans.element(0, 2, 50, 50);
        Check.equal("cheap good again", 1, plans.plan(0, Yard.STEPS));
    }
}
