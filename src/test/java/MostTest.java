/** Promise 8: most. */
public final class MostTest {
    public static void main(String[] args) {
        ChargePlans plans = new ChargePlans();
        plans.good(10, 1, 6);
        plans.good(20, 9, 6);
        plans.heat(60, 60);
        plans.heat(60, 60);
        Check.equal("six bundles", 6, plans.plan(0, Yard.STEPS));
        plans.most(0, 6);
        Check.equal("most 6", 6, plans.plan(0, Yard.STEPS));
        plans.most(0, 5);
        Check.equal("most 5", 13, plans.plan(0, Yard.STEPS));
        Yard.amounts("most 5", plans, 0, 4, 1);
        plans.most(0, 3);
        Check.equal("most 3", 27, plans.plan(0, Yard.STEPS));
        plans.most(0, 2);
        Check.equal("most 2", -1, plans.plan(0, Yard.STEPS));
        plans.most(0, 0);
        Check.equal("most 0", -1, plans.plan(0, Yard.STEPS));
        Check.equal("the other heat", 6, plans.plan(1, Yard.STEPS));
        plans.most(0, 30);
        Check.equal("most 30", 6, plans.plan(0, Yard.STEPS));
        Check.end();
    }
}
