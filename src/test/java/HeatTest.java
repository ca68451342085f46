/** Promise 6: heat. */
public final class HeatTest {
    public static void main(String[] args) {
        weightsBind();
        Check.end();
    }

    private static void weightsBind() {
        ChargePlans plans = new ChargePlans();
        plans.good(10, 1, 6);
        plans.heat(30, 30);
        plans.heat(31, 39);
        plans.heat(31, 40);
        plans.heat(21, 30);
        Check.equal("30 to 30", 3, plans.plan(0, Yard.STEPS));
        Check.equal("31 to 39", -1, plans.plan(1, Yard.STEPS));
        Check.equal("31 to 40", 4, plans.plan(2, Yard.STEPS));
        Check.equal("21 to 30", 3, plans.plan(3, Yard.STEPS));
    }
}
