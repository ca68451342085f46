/** Promise 14: clash. */
public final class ClashTest {
    private static final int LOW_WEIGHT = 1;
    private static final int HIGH_WEIGHT = 2;
    private static final int BUNDLES = 1 << 10;

    public static void main(String[] args) {
        weights();
        bundles();
        elements();
        earlierRulesAreLeftOutFirst();
        leavesAllElse();
        Check.end();
    }

    private static int tooRich(int element) {
        return 1 << 2 + 2 * element;
    }

    private static int tooPoor(int element) {
        return 1 << 3 + 2 * element;
    }

    private static void weights() {
        ChargePlans plans = new ChargePlans();
        plans.good(10, 1, 6);
        plans.heat(60, 60);
        plans.heat(61, 69);
        plans.heat(31, 39);
        Check.equal("no clash", 0, plans.clash(0));
        Check.equal("too little stock", LOW_WEIGHT, plans.clash(1));
        Check.equal("no whole bundles", LOW_WEIGHT | HIGH_WEIGHT, plans.clash(2));
    }

    private static void bundles() {
        ChargePlans plans = new ChargePlans();
        plans.good(10, 1, 6);
        plans.heat(30, 35);
        plans.most(0, 3);
        Check.equal("three bundles", 0, plans.clash(0));
        plans.most(0, 2);
        Check.equal("two bundles", LOW_WEIGHT | BUNDLES, plans.clash(0));
    }

    private static void elements() {
        for (int element = 0; element < 4; element++) {
            ChargePlans plans = new ChargePlans();
            plans.good(10, 1, 6);
            plans.element(0, element, 40, 60);
            plans.heat(10, 60);
            plans.span(0, element, 40, 60);
            Check.equal("no clash", 0, plans.clash(0));
            plans.span(0, element, 40, 59);
            Check.equal("too rich", LOW_WEIGHT | tooRich(element), plans.clash(0));
            plans.span(0, element, 41, 60);
            Check.equal("too poor", LOW_WEIGHT | tooPoor(element), plans.clash(0));
            plans.span(0, element, 41, 59);
            Check.equal("too poor stays", LOW_WEIGHT | tooPoor(element), plans.clash(0));
        }
    }

    private static void earlierRulesAreLeftOutFirst() {
        ChargePlans plans = new ChargePlans();
        plans.good(10, 1, 6);
        plans.good(10, 1, 6);
        plans.element(0, 0, 0, 100);
        plans.element(1, 3, 0, 100);
        plans.heat(10, 60);
        plans.span(0, 0, 0, 10);
        plans.span(0, 3, 0, 10);
        Check.equal("two elements clash", LOW_WEIGHT | tooRich(0) | tooRich(3), plans.clash(0));
        plans.most(0, 0);
        Check.equal("bundles alone are left", LOW_WEIGHT | BUNDLES, plans.clash(0));
        plans.most(0, 30);
        plans.span(0, 1, 1, 10000);
        Check.equal("the last cause alone is left", LOW_WEIGHT | tooPoor(1), plans.clash(0));
        plans.span(0, 2, 1, 10000);
        Check.equal("a cause that comes later yet", LOW_WEIGHT | tooPoor(2), plans.clash(0));
    }

    private static void leavesAllElse() {
        ChargePlans plans = Yard.make();
        plans.plan(0, 1);
        plans.plan(0, Yard.STEPS);
        plans.span(0, 0, 0, 15);
        Check.equal("clash of the yard", LOW_WEIGHT | tooRich(0), plans.clash(0));
        Yard.amounts("after a clash", plans, 0, 0, 2, 3);
        Check.equal("steps after a clash", 33, plans.planned(1));
        Check.equal("stock after a clash", 6, plans.stock(0));
    }
}
