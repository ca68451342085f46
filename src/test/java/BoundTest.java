/** Promise 13: bound. */
public final class BoundTest {
    public static void main(String[] args) {
        ordinary();
        onlyGoodsWithStockAndLimit();
        Check.end();
    }

    private static void ordinary() {
        ChargePlans plans = Yard.make();
        plans.heat(30, 100000);
        plans.heat(1, 100);
        Check.equal("rounded up", 334, plans.bound(0));
        Check.equal("a whole number", 50, plans.bound(1));
        Check.equal("of one kilo", 2, plans.bound(2));
        plans.good(1000, 1, 1);
        Check.equal("a cheaper good", 1, plans.bound(0));
        plans.good(1, 0, 1);
        Check.equal("a good for nothing", 0, plans.bound(0));
    }

    private static void onlyGoodsWithStockAndLimit() {
        ChargePlans plans = new ChargePlans();
        plans.good(10, 10, 1);
        plans.good(10, 20, 1);
        plans.good(10, 5, 0);
        plans.heat(100, 100);
        Check.equal("without the good that has no stock", 100, plans.bound(0));
        plans.limit(0, 0);
        Check.equal("without the good that has no limit", 200, plans.bound(0));
        plans.arrive(2, 1);
        Check.equal("with the arrived good", 50, plans.bound(0));
        plans.limit(1, 0);
        plans.limit(2, 0);
        Check.meaning("no good at all", () -> plans.bound(0));
        plans.limit(0, 1);
        Check.equal("with limit 1", 100, plans.bound(0));
    }
}
