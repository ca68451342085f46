/** Promise 6: heat. */
public final class HeatTest {
    public static void main(String[] args) {
        wrongInputs();
        edgesAreTaken();
        startsWithWideSpans();
        startsWithoutPlan();
        weightsBindAtTheirEdges();
        Check.end();
    }

    private static void wrongInputs() {
        ChargePlans plans = new ChargePlans();
        Check.range("low 0", () -> plans.heat(0, 1));
        Check.range("both 0", () -> plans.heat(0, 0));
        Check.range("low -1", () -> plans.heat(-1, 1));
        Check.range("high 100001", () -> plans.heat(1, 100001));
        Check.range("both 100001", () -> plans.heat(100001, 100001));
        Check.range("low above high", () -> plans.heat(5, 4));
        Check.index("a refused heat is none", () -> plans.clash(0));
        Check.equal("the first heat after refused ones", 0, plans.heat(1, 1));
    }

    private static void edgesAreTaken() {
        ChargePlans plans = new ChargePlans();
        Check.equal("heat 0", 0, plans.heat(1, 1));
        Check.equal("heat 1", 1, plans.heat(100000, 100000));
        Check.equal("heat 2", 2, plans.heat(1, 100000));
        Check.equal("heat 3", 3, plans.heat(200, 300));
        Check.turn("a fifth heat", () -> plans.heat(1, 1));
        Check.turn("turn is looked at ahead of range", () -> plans.heat(0, 0));
        Check.index("no heat 4", () -> plans.clash(4));
        plans.good(1, 3, 1);
        Check.equal("heat 0", 3, plans.plan(0, Yard.STEPS));
        Check.equal("heat 1", -1, plans.plan(1, Yard.STEPS));
        Check.equal("heat 2", 3, plans.plan(2, Yard.STEPS));
    }

    private static void startsWithWideSpans() {
        ChargePlans plans = new ChargePlans();
        for (int good = 0; good < 5; good++) {
            plans.good(1000, 1, 6);
            plans.element(good, 0, 0, 10000);
            plans.element(good, 1, 0, 0);
            plans.element(good, 2, 10000, 10000);
            plans.element(good, 3, 0, 10000);
        }
        for (int heat = 0; heat < 4; heat++) {
            plans.heat(30000, 30000);
            Check.equal("thirty bundles of all shares", 30, plans.plan(heat, Yard.STEPS));
            Yard.amounts("thirty bundles", plans, heat, 6, 6, 6, 6, 6);
        }
    }

    private static void startsWithoutPlan() {
        ChargePlans plans = Yard.make();
        plans.plan(0, Yard.STEPS);
        int heat = plans.heat(1, 1);
        Check.turn("amount of a new heat", () -> plans.amount(heat, 0));
        Check.turn("take of a new heat", () -> plans.take(heat));
    }

    private static void weightsBindAtTheirEdges() {
        ChargePlans plans = new ChargePlans();
        plans.good(10, 1, 6);
        plans.heat(30, 30);
        plans.heat(31, 39);
        plans.heat(31, 40);
        plans.heat(21, 30);
        Check.equal("30 to 30", 3, plans.plan(0, Yard.STEPS));
        Check.equal("31 to 39", -1, plans.plan(1, Yard.STEPS));
        Check.equal("31 to 40", 4, plans.plan(2, Yard.STEPS));
        Check.equal("21 to 30", 3, plans.plan(3, Yard.STEPS));
    }
}
