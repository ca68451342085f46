/** Promise 11: amount. */
public final class AmountTest {
    public static void main(String[] args) {
        ChargePlans plans = Yard.make();
        plans.heat(90, 90);
        Check.turn("no plan yet", () -> plans.amount(0, 0));
        plans.plan(0, Yard.STEPS);
        Yard.amounts("heat 0", plans, 0, 0, 2, 3);
        Check.turn("no plan of heat 1 yet", () -> plans.amount(1, 0));
        plans.plan(1, Yard.STEPS);
        Yard.amounts("heat 1", plans, 1, 0, 0, 3);
        Yard.amounts("heat 0 beside heat 1", plans, 0, 0, 2, 3);
        plans.most(0, 2);
        plans.plan(0, Yard.STEPS);
        Yard.amounts("a new plan of heat 0", plans, 0, 2, 0, 0);
        Yard.amounts("heat 1 after a new plan of heat 0", plans, 1, 0, 0, 3);
        Check.end();
    }
}
