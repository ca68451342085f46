/** The example of README.md, call by call, with the answers that it tells. */
public final class ReadmeTest {
    public static void main(String[] args) {
        ChargePlans plans = new ChargePlans();
        int pure = plans.good(100, 500, 6);
        int scrap = plans.good(60, 200, 4);
        plans.element(pure, 0, 10, 20);
        plans.element(scrap, 0, 100, 200);
        int heat = plans.heat(200, 260);
        plans.span(heat, 0, 0, 150);
        Check.equal("plan", 900, plans.plan(heat, 100000));
        Check.equal("amount", 2, plans.amount(heat, scrap));
        Check.equal("upper number", 1300, plans.worst(heat, 0, 1, 0));
        Check.equal("lower number", 11, plans.worst(heat, 0, 1, 1));
        Check.equal("take", 900, plans.take(heat));
        Check.end();
    }
}
