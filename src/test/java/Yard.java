/** The yard that several tests start from: three goods, the cheap ones rich in element 0, and one heat. */
final class Yard {
    static final int STEPS = 100000;

    private Yard() {
    }

    static ChargePlans make() {
        ChargePlans plans = new ChargePlans();
        plans.good(100, 500, 6);
        plans.good(60, 200, 4);
        plans.good(30, 50, 3);
        plans.element(0, 0, 10, 20);
        plans.element(1, 0, 100, 200);
        plans.element(2, 0, 300, 500);
        plans.heat(200, 260);
        return plans;
    }

    /** All places are taken, spans and limits differ, and the heats have a plan, none yet, or none found. */
    static ChargePlans full() {
        ChargePlans plans = new ChargePlans();
        plans.good(10, 40, 5);
        plans.good(5, 10, 3);
        plans.good(20, 70, 2);
        plans.good(1, 0, 1);
        plans.good(7, 35, 0);
        plans.limit(0, 4);
        plans.limit(1, 2);
        plans.limit(3, 3);
        plans.limit(4, 5);
        plans.heat(20, 20);
        plans.heat(60, 60);
        plans.heat(1, 100000);
        plans.heat(10, 35);
        for (int element = 0; element < 4; element++) {
            for (int good = 0; good < 5; good++) {
                plans.element(good, element, 100 * good + 10 * element + 1, 500 + 100 * good + 10 * element);
            }
            for (int heat = 0; heat < 4; heat++) {
                plans.span(heat, element, heat + element, 6000 + 100 * heat + element);
            }
        }
        plans.span(3, 1, 9000, 9001);
        // One bundle more would make either heat cheaper.
        plans.most(0, 2);
        plans.most(1, 4);
        plans.plan(0, STEPS);
        plans.plan(3, STEPS);
        plans.plan(1, 112);
        return plans;
    }

    static void latest(String when, ChargePlans plans, int spent, int steps) {
        Check.equal(when + ": planned(0)", spent, plans.planned(0));
        Check.equal(when + ": planned(1)", steps, plans.planned(1));
    }

    static void amounts(String when, ChargePlans plans, int heat, int... due) {
        for (int good = 0; good < due.length; good++) {
            Check.equal(when + ": amount(" + heat + ", " + good + ")", due[good], plans.amount(heat, good));
        }
    }
}
