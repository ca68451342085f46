/** Promise 11: amount. */
public final class AmountTest {
    public static void main(String[] args) {
        ChargePlans plans = Yard.make();
        plans.heat(90, 90);
        Check.turn("no plan yet", () -> plans.amount(0, 0));
        Check.index("index ahead of turn, heat", () -> plans.amount(2, 0));
        Check.index("index ahead of turn, good", () -> plans.amount(0, 3));
        plans.plan(0, Yard.STEPS);
        Yard.amounts("heat 0", plans, 0, 0, 2, 3);
        Check.turn("no plan of heat 1 yet", () -> plans.amount(1, 0));
        plans.plan(1, Yard.STEPS);
        Yard.amounts("heat 1", plans, 1, 0, 0, 3);
        Yard.amounts("heat 0 beside heat 1", plans, 0, 0, 2, 3);
        Check.index("heat -1", () -> plans.amount(-1, 0));
        Check.index("heat 2", () -> plans.amount(2, 0));
        Check.index("good -1", () -> plans.amount(0, -1));
        Check.index("good 3", () -> plans.amount(0, 3));
        plans.good(5, 5, 5);
        Check.equal("a good that came after the plan", 0, plans.amount(0, 3));
        plans.most(0, 2);
        plans.plan(0, Yard.STEPS);
        Yard.amounts("a new plan of heat 0", plans, 0, 2, 0, 0, 0);
        Yard.amounts("heat 1 after a new plan of heat 0", plans, 1, 0, 0, 3, 0);
        Check.end();
    }
}
