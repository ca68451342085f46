/** The yard that several tests start from: three goods, the cheap ones rich in element 0, and one heat. */
final class Yard {
    static final int STEPS = 100000;

    private Yard() {
    }

    static ChargePlans make() {
        ChargePlans plans = new ChargePlans();
        plans.good(100, 500, 6);
        plans.good(60, 200, 4);
        plans.good(30, 50, 3);
        plans.element(0, 0, 10, 20);
        plans.element(1, 0, 100, 200);
        plans.element(2, 0, 300, 500);
        plans.heat(200, 260);
        return plans;
    }

    static void amounts(String when, ChargePlans plans, int heat, int... due) {
        for (int good = 0; good < due.length; good++) {
            Check.equal(when + ": amount(" + heat + ", " + good + ")", due[good], plans.amount(heat, good));
        }
    }
}
