/** Promise 2: good. */
public final class GoodTest {
    public static void main(String[] args) {
        numbersInOrder();
        eachHasItsOwn();
        Check.end();
    }

    private static void numbersInOrder() {
        ChargePlans plans = new ChargePlans();
        for (int good = 0; good < 5; good++) {
            Check.equal("the next number", good, plans.good(10, 10, 1));
        }
    }

    private static void eachHasItsOwn() {
        ChargePlans plans = new ChargePlans();
        plans.good(10, 7, 1);
        plans.good(20, 15, 2);
        plans.good(10, 9, 3);
        plans.heat(10, 10);
        plans.heat(40, 40);
        Check.equal("the cheapest of 10 kilos", 7, plans.plan(0, Yard.STEPS));
        Yard.amounts("the cheapest of 10 kilos", plans, 0, 1, 0, 0);
        Check.equal("the cheapest of 40 kilos", 30, plans.plan(1, Yard.STEPS));
        Yard.amounts("the cheapest of 40 kilos", plans, 1, 0, 2, 0);
        Check.equal("stock of good 0", 1, plans.stock(0));
        Check.equal("stock of good 1", 2, plans.stock(1));
        Check.equal("stock of good 2", 3, plans.stock(2));
    }
}
