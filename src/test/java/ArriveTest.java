/** Promise 5: arrive. */
public final class ArriveTest {
    public static void main(String[] args) {
        ChargePlans plans = new ChargePlans();
        plans.good(10, 10, 1);
        plans.good(10, 10, 0);
        Check.equal("two come", 3, plans.arrive(0, 2));
        Check.equal("stock", 3, plans.stock(0));
        Check.equal("none come", 3, plans.arrive(0, 0));
        Check.equal("stock after all", 3, plans.stock(0));
        Check.equal("other stock after all", 0, plans.stock(1));
        Check.equal("filled up", 6, plans.arrive(0, 3));
        Check.equal("none come to a full stock", 6, plans.arrive(0, 0));
        Check.meaning("one too many", () -> plans.arrive(0, 1));
        Check.equal("six at once", 6, plans.arrive(1, 6));
        arrivedBundlesAreUsed();
        Check.end();
    }

    private static void arrivedBundlesAreUsed() {
        ChargePlans plans = new ChargePlans();
        plans.good(10, 10, 1);
        plans.heat(20, 20);
        Check.equal("too few", -1, plans.plan(0, Yard.STEPS));
        plans.arrive(0, 1);
        Check.equal("enough", 20, plans.plan(0, Yard.STEPS));
    }
}
