/** Promise 5: arrive. */
public final class ArriveTest {
    public static void main(String[] args) {
        ChargePlans plans = new ChargePlans();
        plans.good(10, 10, 1);
        plans.good(10, 10, 0);
        Check.equal("two come", 3, plans.arrive(0, 2));
        Check.equal("stock", 3, plans.stock(0));
        Check.equal("none come", 3, plans.arrive(0, 0));
        wrongInputs(plans);
        Check.equal("stock after refused ones", 3, plans.stock(0));
        Check.equal("other stock after all", 0, plans.stock(1));
        Check.equal("filled up", 6, plans.arrive(0, 3));
        Check.equal("none come to a full stock", 6, plans.arrive(0, 0));
        Check.meaning("one too many", () -> plans.arrive(0, 1));
        Check.equal("six at once", 6, plans.arrive(1, 6));
        arrivedBundlesAreUsed();
        Check.end();
    }

    private static void wrongInputs(ChargePlans plans) {
        Check.index("good -1", () -> plans.arrive(-1, 1));
        Check.index("good 2", () -> plans.arrive(2, 1));
        Check.index("index ahead of range", () -> plans.arrive(2, -1));
        Check.range("n -1", () -> plans.arrive(0, -1));
        Check.range("n least int", () -> plans.arrive(0, Integer.MIN_VALUE));
        Check.meaning("four to three", () -> plans.arrive(0, 4));
        Check.meaning("seven to none", () -> plans.arrive(1, 7));
        Check.meaning("n most int", () -> plans.arrive(0, Integer.MAX_VALUE));
    }

    private static void arrivedBundlesAreUsed() {
        ChargePlans plans = new ChargePlans();
        plans.good(10, 10, 1);
        plans.heat(20, 20);
        Check.equal("too few", -1, plans.plan(0, Yard.STEPS));
        plans.arrive(0, 1);
        Check.equal("enough", 20, plans.plan(0, Yard.STEPS));
    }
}
