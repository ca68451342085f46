/** Promise 16: stock. */
public final class StockTest {
    public static void main(String[] args) {
        ChargePlans plans = new ChargePlans();
        for (int good = 0; good < 5; good++) {
            plans.good(10, good, good + 1);
        }
        for (int good = 0; good < 5; good++) {
            Check.equal("stock of good " + good, good + 1, plans.stock(good));
        }
        plans.limit(4, 0);
        Check.equal("a limit is no stock", 5, plans.stock(4));
        plans.arrive(4, 1);
        Check.equal("one came", 6, plans.stock(4));
        plans.heat(30, 30);
        plans.plan(0, Yard.STEPS);
        plans.take(0);
        Check.equal("good 0 was taken", 0, plans.stock(0));
        Check.equal("good 1 was taken", 0, plans.stock(1));
        Check.equal("good 2 was not", 3, plans.stock(2));
        Check.end();
    }
}
