/** Promise 4: limit. */
public final class LimitTest {
    public static void main(String[] args) {
        ChargePlans plans = new ChargePlans();
        plans.good(10, 10, 5);
        plans.good(10, 30, 6);
        plans.heat(50, 50);
        Check.equal("no limit yet", 50, plans.plan(0, Yard.STEPS));
        plans.limit(0, 2);
        Check.equal("two of the cheap good", 110, plans.plan(0, Yard.STEPS));
        Yard.amounts("limit 2", plans, 0, 2, 3);
        plans.limit(0, 0);
        Check.equal("none of the cheap good", 150, plans.plan(0, Yard.STEPS));
        plans.limit(1, 4);
        Check.equal("too little is left", -1, plans.plan(0, Yard.STEPS));
        plans.limit(0, 6);
        Check.equal("limit above the stock", 50, plans.plan(0, Yard.STEPS));
        Check.equal("a limit is no stock", 5, plans.stock(0));
        Check.end();
    }
}
