/** Promise 3: element. */
public final class ElementTest {
    public static void main(String[] args) {
        sharesAreKeptApart();
        wrongInputs();
        edgesAreTaken();
        sharesSteerPlans();
        Check.end();
    }

    private static void sharesAreKeptApart() {
        ChargePlans plans = new ChargePlans();
        plans.good(1, 1, 1);
        plans.good(1, 1, 1);
        for (int good = 0; good < 2; good++) {
            for (int element = 0; element < 4; element++) {
                plans.element(good, element, 10 * good + element, 100 + 10 * good + element);
            }
        }
        plans.heat(1, 1);
        for (int good = 0; good < 2; good++) {
            plans.limit(1 - good, 0);
            plans.limit(good, 6);
            plans.plan(0, Yard.STEPS);
            for (int element = 0; element < 4; element++) {
                Check.equal("low share", 10 * good + element, plans.worst(0, element, 0, 0));
                Check.equal("high share", 100 + 10 * good + element, plans.worst(0, element, 1, 0));
            }
        }
    }

    private static void wrongInputs() {
        ChargePlans plans = Yard.make();
        plans.plan(0, Yard.STEPS);
        Check.index("good -1", () -> plans.element(-1, 0, 0, 0));
        Check.index("good 3", () -> plans.element(3, 0, 0, 0));
        Check.index("element -1", () -> plans.element(0, -1, 0, 0));
        Check.index("element 4", () -> plans.element(0, 4, 0, 0));
        Check.index("index ahead of range, good", () -> plans.element(3, 0, 5, 4));
        Check.index("index ahead of range, element", () -> plans.element(2, 4, 5, 4));
        Check.range("low above high", () -> plans.element(1, 0, 5, 4));
        Check.range("low -1", () -> plans.element(1, 0, -1, 4));
        Check.range("high 10001", () -> plans.element(1, 0, 0, 10001));
        Check.range("both too high", () -> plans.element(1, 0, 10001, 10001));
        Check.range("both below 0", () -> plans.element(1, 0, -2, -1));
        Check.equal("low end after refused ones", 1300, plans.worst(0, 0, 0, 0));
        Check.equal("high end after refused ones", 2300, plans.worst(0, 0, 1, 0));
    }

    private static void edgesAreTaken() {
        ChargePlans plans = new ChargePlans();
        plans.good(1, 1, 1);
        plans.element(0, 3, 0, 10000);
        plans.element(0, 2, 10000, 10000);
        plans.element(0, 1, 0, 0);
        plans.element(0, 0, 7, 7);
        plans.heat(1, 1);
        Check.equal("plan", 1, plans.plan(0, Yard.STEPS));
        Check.equal("whole high share", 10000, plans.worst(0, 3, 1, 0));
        Check.equal("no low share", 0, plans.worst(0, 3, 0, 0));
        Check.equal("whole low share", 10000, plans.worst(0, 2, 0, 0));
        Check.equal("low share as high one", 7, plans.worst(0, 0, 0, 0));
    }

    private static void sharesSteerPlans() {
        ChargePlans plans = new ChargePlans();
        plans.good(10, 1, 1);
        plans.good(10, 5, 1);
        plans.heat(10, 10);
        plans.span(0, 2, 0, 50);
        Check.equal("cheap good at first", 1, plans.plan(0, Yard.STEPS));
        plans.element(0, 2, 0, 51);
        Check.equal("cheap good is too rich", 5, plans.plan(0, Yard.STEPS));
        plans.element(0, 2, 50, 50);
        Check.equal("cheap good again", 1, plans.plan(0, Yard.STEPS));
    }
}
