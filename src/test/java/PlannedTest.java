/** Promise 10: planned. */
public final class PlannedTest {
    public static void main(String[] args) {
        wrongInputs();
        stepsOfTheYard();
        spentAtTheEdge();
        noStockIsOneTry();
        heavyOnesAreGivenUp();
        withoutGoodsNothingIsSpent();
        theLatestOfAllHeats();
        mostSteps();
        Check.end();
    }

    private static void expect(String when, ChargePlans plans, int spent, int steps) {
        Check.equal(when + ": planned(0)", spent, plans.planned(0));
        Check.equal(when + ": planned(1)", steps, plans.planned(1));
    }

    private static void wrongInputs() {
        ChargePlans plans = Yard.make();
        Check.index("index ahead of turn, 2", () -> plans.planned(2));
        Check.index("index ahead of turn, -1", () -> plans.planned(-1));
        Check.turn("no planning yet, 0", () -> plans.planned(0));
        Check.turn("no planning yet, 1", () -> plans.planned(1));
        Check.range("a refused planning", () -> plans.plan(0, -1));
        Check.turn("a refused planning is none", () -> plans.planned(1));
        plans.clash(0);
        Check.turn("a clash is no planning", () -> plans.planned(1));
        plans.plan(0, 5);
        Check.index("what -1", () -> plans.planned(-1));
        Check.index("what 2", () -> plans.planned(2));
        plans.clash(0);
        plans.plan(0, 5);
        expect("5 steps", plans, 1, 5);
    }

    private static void stepsOfTheYard() {
        ChargePlans plans = Yard.make();
        plans.plan(0, Yard.STEPS);
        expect("the yard", plans, 0, 33);
        plans.span(0, 0, 0, 100);
        plans.plan(0, Yard.STEPS);
        expect("the yard with a span", plans, 0, 58);
        plans.span(0, 0, 0, 15);
        plans.plan(0, Yard.STEPS);
        expect("the yard without a charge", plans, 0, 62);
    }

    private static void spentAtTheEdge() {
        ChargePlans plans = Yard.make();
        plans.plan(0, 0);
        expect("no steps", plans, 1, 0);
        plans.plan(0, 32);
        expect("one too few", plans, 1, 32);
        plans.plan(0, 33);
        expect("just enough", plans, 0, 33);
        plans.plan(0, 34);
        expect("one more", plans, 0, 33);
    }

    private static void noStockIsOneTry() {
        ChargePlans plans = new ChargePlans();
        plans.good(10, 1, 0);
        plans.good(10, 1, 2);
        plans.limit(1, 1);
        plans.good(10, 1, 6);
        plans.limit(2, 0);
        plans.heat(100, 100);
        plans.plan(0, Yard.STEPS);
        expect("1 try, 2 tries, each with 1 try", plans, 0, 5);
    }

    private static void heavyOnesAreGivenUp() {
        ChargePlans plans = new ChargePlans();
        plans.good(10, 1, 3);
        plans.good(10, 1, 3);
        plans.heat(15, 19);
        // 4 tries of good 0, of which 0 and 1 bundles go on with 4 tries each.
        plans.plan(0, Yard.STEPS);
        expect("heavy ones", plans, 0, 12);
    }

    private static void withoutGoodsNothingIsSpent() {
        ChargePlans plans = new ChargePlans();
        plans.heat(1, 1);
        plans.plan(0, 0);
        expect("no goods", plans, 0, 0);
    }

    private static void theLatestOfAllHeats() {
        ChargePlans plans = Yard.make();
        plans.heat(1, 1);
        plans.plan(0, 4);
        plans.plan(1, Yard.STEPS);
        expect("heat 1: 7, 5 and 4 tries", plans, 0, 16);
        plans.plan(0, 4);
        expect("heat 0", plans, 1, 4);
    }

    private static void mostSteps() {
        ChargePlans plans = new ChargePlans();
        for (int good = 0; good < 5; good++) {
            plans.good(1, 1, 6);
        }
        plans.heat(31, 100000);
        plans.plan(0, Yard.STEPS);
        expect("all charges", plans, 0, 7 + 49 + 343 + 2401 + 16807);
    }
}
