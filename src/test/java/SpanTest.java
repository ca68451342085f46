/** Promise 7: span. */
public final class SpanTest {
    public static void main(String[] args) {
        highEndsBind();
        lowEndsBind();
        eachHeatAndElementHasItsOwn();
        Check.end();
    }

    private static ChargePlans mix(int low, int high) {
        ChargePlans plans = new ChargePlans();
        plans.good(10, 1, 6);
        plans.good(30, 90, 6);
        plans.element(0, 1, low, high);
        plans.element(1, 1, 400, 400);
        plans.heat(40, 40);
        return plans;
    }

    private static void highEndsBind() {
        ChargePlans plans = mix(0, 800);
        // Of 40 kilos the charges are 4 and 0 bundles, or 1 and 1: worst high shares 800 and 500.
        plans.span(0, 1, 0, 800);
        Check.equal("high end 800", 4, plans.plan(0, Yard.STEPS));
        plans.span(0, 1, 0, 799);
        Check.equal("high end 799", 91, plans.plan(0, Yard.STEPS));
        plans.span(0, 1, 0, 500);
        Check.equal("high end 500", 91, plans.plan(0, Yard.STEPS));
        plans.span(0, 1, 0, 499);
        Check.equal("high end 499", -1, plans.plan(0, Yard.STEPS));
    }

    private static void lowEndsBind() {
        ChargePlans plans = mix(100, 10000);
        // Worst low shares are 100 and 325.
        plans.span(0, 1, 100, 10000);
        Check.equal("low end 100", 4, plans.plan(0, Yard.STEPS));
        plans.span(0, 1, 101, 10000);
        Check.equal("low end 101", 91, plans.plan(0, Yard.STEPS));
        plans.span(0, 1, 325, 10000);
        Check.equal("low end 325", 91, plans.plan(0, Yard.STEPS));
        plans.span(0, 1, 326, 10000);
        Check.equal("low end 326", -1, plans.plan(0, Yard.STEPS));
    }

    private static void eachHeatAndElementHasItsOwn() {
        ChargePlans plans = new ChargePlans();
        plans.good(10, 1, 6);
        for (int element = 0; element < 4; element++) {
            plans.element(0, element, 100 * element, 100 * element + 50);
        }
        for (int heat = 0; heat < 4; heat++) {
            plans.heat(10, 10);
        }
        for (int element = 0; element < 4; element++) {
            plans.span(element, element, 100 * element, 100 * element + 49);
            for (int heat = 0; heat < 4; heat++) {
                Check.equal("too rich in its element", heat == element ? -1 : 1, plans.plan(heat, Yard.STEPS));
            }
            plans.span(element, element, 100 * element + 1, 10000);
            Check.equal("too poor in its element", -1, plans.plan(element, Yard.STEPS));
            plans.span(element, element, 100 * element, 100 * element + 50);
            Check.equal("as it should be", 1, plans.plan(element, Yard.STEPS));
        }
    }
}
