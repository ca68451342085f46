/** Promise 2: good. */
public final class GoodTest {
    public static void main(String[] args) {
        rangesAreRefused();
        edgesAreTaken();
        startsWithoutShares();
        startsWithLimitSix();
        Check.end();
    }

    private static void rangesAreRefused() {
        ChargePlans plans = new ChargePlans();
        Check.range("kilos 0", () -> plans.good(0, 1, 1));
        Check.range("kilos -1", () -> plans.good(-1, 1, 1));
        Check.range("kilos 1001", () -> plans.good(1001, 1, 1));
        Check.range("kilos least int", () -> plans.good(Integer.MIN_VALUE, 1, 1));
        Check.range("kilos most int", () -> plans.good(Integer.MAX_VALUE, 1, 1));
        Check.range("cents -1", () -> plans.good(1, -1, 1));
        Check.range("cents 100001", () -> plans.good(1, 100001, 1));
        Check.range("stock -1", () -> plans.good(1, 1, -1));
        Check.range("stock 7", () -> plans.good(1, 1, 7));
        Check.index("a refused good is none", () -> plans.stock(0));
        Check.equal("the first good after refused ones", 0, plans.good(1, 1, 1));
    }

    private static void edgesAreTaken() {
        ChargePlans plans = new ChargePlans();
        Check.equal("good 0", 0, plans.good(1, 0, 0));
        Check.equal("good 1", 1, plans.good(1000, 100000, 6));
        Check.equal("good 2", 2, plans.good(7, 8, 1));
        Check.equal("good 3", 3, plans.good(7, 8, 2));
        Check.equal("good 4", 4, plans.good(7, 8, 3));
        Check.turn("a sixth good", () -> plans.good(7, 8, 3));
        Check.turn("turn is looked at ahead of range", () -> plans.good(0, -1, 7));
        Check.equal("stock of good 0", 0, plans.stock(0));
        Check.equal("stock of good 1", 6, plans.stock(1));
        Check.equal("stock of good 4", 3, plans.stock(4));
        Check.index("no good 5", () -> plans.stock(5));
        plans.heat(1000, 1000);
        Check.equal("plan of the dearest good", 100000, plans.plan(0, Yard.STEPS));
        Yard.amounts("the dearest good", plans, 0, 0, 1, 0, 0, 0);
    }

    private static void startsWithoutShares() {
        ChargePlans plans = new ChargePlans();
        plans.good(10, 10, 6);
        plans.heat(10, 20);
        for (int element = 0; element < 4; element++) {
            plans.span(0, element, 0, 0);
        }
        Check.equal("plan with no element allowed", 10, plans.plan(0, Yard.STEPS));
        for (int element = 0; element < 4; element++) {
            Check.equal("low share at first", 0, plans.worst(0, element, 0, 0));
            Check.equal("high share at first", 0, plans.worst(0, element, 1, 0));
        }
    }

    private static void startsWithLimitSix() {
        ChargePlans plans = new ChargePlans();
        plans.good(10, 10, 6);
        plans.heat(60, 60);
        Check.equal("plan with six bundles", 60, plans.plan(0, Yard.STEPS));
        Check.equal("six bundles", 6, plans.amount(0, 0));
    }
}
