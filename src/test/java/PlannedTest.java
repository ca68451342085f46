/** Promise 10: planned. */
public final class PlannedTest {
    public static void main(String[] args) {
        stepsOfTheYard();
        spentAtTheEdge();
        noStockIsOneTry();
        heavyOnesAreGivenUp();
        theLatestOfAllHeats();
        Check.end();
    }

    private static void stepsOfTheYard() {
        ChargePlans plans = Yard.make();
        plans.plan(0, Yard.STEPS);
        Yard.latest("the yard", plans, 0, 33);
        plans.span(0, 0, 0, 100);
        plans.plan(0, Yard.STEPS);
        Yard.latest("the yard with a span", plans, 0, 58);
        plans.span(0, 0, 0, 15);
        plans.plan(0, Yard.STEPS);
        Yard.latest("the yard without a charge", plans, 0, 62);
    }

    private static void spentAtTheEdge() {
        ChargePlans plans = Yard.make();
        plans.plan(0, 0);
        Yard.latest("no steps", plans, 1, 0);
        plans.plan(0, 32);
        Yard.latest("one too few", plans, 1, 32);
        plans.plan(0, 33);
        Yard.latest("just enough", plans, 0, 33);
        plans.plan(0, 34);
        Yard.latest("one more", plans, 0, 33);
    }

    private static void noStockIsOneTry() {
        ChargePlans plans = new ChargePlans();
        plans.good(10, 1, 0);
        plans.good(10, 1, 2);
        plans.limit(1, 1);
        plans.good(10, 1, 6);
        plans.limit(2, 0);
        plans.heat(100, 100);
        plans.plan(0, Yard.STEPS);
        Yard.latest("1 try, 2 tries, each with 1 try", plans, 0, 5);
    }

    private static void heavyOnesAreGivenUp() {
        ChargePlans plans = new ChargePlans();
        plans.good(10, 1, 3);
        plans.good(10, 1, 3);
        plans.heat(15, 19);
        // 4 tries of good 0, of which 0 and 1 bundles go on with 4 tries each.
        plans.plan(0, Yard.STEPS);
        Yard.latest("heavy ones", plans, 0, 12);
    }

    private static void theLatestOfAllHeats() {
        ChargePlans plans = Yard.make();
        plans.heat(1, 1);
        plans.plan(0, 4);
        plans.plan(1, Yard.STEPS);
        Yard.latest("heat 1: 7, 5 and 4 tries", plans, 0, 16);
        plans.plan(0, 4);
        Yard.latest("heat 0", plans, 1, 4);
    }
}
