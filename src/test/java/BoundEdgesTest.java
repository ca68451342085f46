/** Promise 13 at its edges: "Index: no such heat; meaning: there is no good with a stock and a limit." */
public final class BoundEdgesTest {
    public static void main(String[] args) {
        noSuchHeat();
        noGoodWithStockAndLimit();
        indexAheadOfMeaning();
        leastWholeNumberNotBelow();
        leastOverAllGoods();
        largestBound();
        noOtherRuleCounts();
        emptiedByTaking();
        Check.end();
    }

    private static void noSuchHeat() {
        State.noSuchHeat("bound", (plans, heat) -> plans.bound(heat));
    }

    /** Each good lacks its stock, its limit or both. */
    private static ChargePlans nothingToHave() {
        ChargePlans plans = new ChargePlans();
        plans.good(1, 1, 0);
        plans.good(1, 2, 6);
        plans.limit(1, 0);
        plans.good(1, 3, 0);
        plans.limit(2, 0);
        plans.heat(7, 7);
        return plans;
    }

    private static void noGoodWithStockAndLimit() {
        State state = new State(BoundEdgesTest::nothingToHave);
        state.meaning("bound with nothing to have", plans -> plans.bound(0));
        ChargePlans stocked = state.make();
        stocked.arrive(0, 1);
        Check.equal("a stock of 1", 7, stocked.bound(0));
        ChargePlans limited = state.make();
        limited.limit(1, 1);
        Check.equal("a limit of 1", 14, limited.bound(0));
        ChargePlans both = state.make();
        both.arrive(2, 1);
        Check.meaning("a stock without a limit", () -> both.bound(0));
        both.limit(2, 1);
        Check.equal("a stock and a limit of 1", 21, both.bound(0));
        new State(() -> {
            ChargePlans plans = new ChargePlans();
            plans.heat(1, 1);
            return plans;
        }).meaning("bound without goods", plans -> plans.bound(0));
    }

    private static void indexAheadOfMeaning() {
        State state = new State(BoundEdgesTest::nothingToHave);
        state.index("no such heat, nothing to have", plans -> plans.bound(1));
        state.index("heat -1, nothing to have", plans -> plans.bound(-1));
        State.empty().index("no heats, no goods", plans -> plans.bound(0));
    }

    private static void leastWholeNumberNotBelow() {
        ChargePlans plans = new ChargePlans();
        plans.good(1000, 1, 1);
        for (int low : new int[] {1, 999, 1000, 1001}) {
            plans.heat(low, 100000);
        }
        Check.equal("a thousandth", 1, plans.bound(0));
        Check.equal("just below one", 1, plans.bound(1));
        Check.equal("just one", 1, plans.bound(2));
        Check.equal("just above one", 2, plans.bound(3));
        plans.good(1000, 0, 1);
        Check.equal("for nothing", 0, plans.bound(3));
    }

    private static void leastOverAllGoods() {
        for (int cheapest = 0; cheapest < 5; cheapest++) {
            ChargePlans plans = new ChargePlans();
            for (int good = 0; good < 5; good++) {
                plans.good(3, good == cheapest ? 299 : 300, 1);
            }
            plans.heat(3, 3);
            plans.heat(1, 1);
            Check.equal("the cheapest is good " + cheapest, 299, plans.bound(0));
            Check.equal("a third of it", 100, plans.bound(1));
            plans.limit(cheapest, 0);
            Check.equal("without good " + cheapest, 300, plans.bound(0));
        }
    }

    private static void largestBound() {
        ChargePlans plans = new ChargePlans();
        plans.good(1, 100000, 6);
        plans.heat(100000, 100000);
        plans.heat(99999, 100000);
        Check.equal("the largest bound", 10000000000L, plans.bound(0));
        Check.equal("one kilo less", 9999900000L, plans.bound(1));
        plans.good(999, 100000, 6);
        Check.equal("a large one that is rounded up", 10010011, plans.bound(0));
    }

    /** "its low weight times the least of cents over kilos of all goods": no share, no bundles, no high weight. */
    private static void noOtherRuleCounts() {
        ChargePlans plans = new ChargePlans();
        plans.good(10, 30, 1);
        plans.good(10, 40, 6);
        plans.element(0, 0, 9000, 10000);
        plans.heat(55, 55);
        plans.heat(55, 100000);
        for (int heat = 0; heat < 2; heat++) {
            Check.equal("bound at first", 165, plans.bound(heat));
            plans.span(heat, 0, 0, 10);
            plans.span(heat, 3, 10000, 10000);
            plans.most(heat, 0);
            Check.equal("no charge holds", -1, plans.plan(heat, Yard.STEPS));
            Check.equal("bound of a heat without any charge", 165, plans.bound(heat));
        }
    }

    private static void emptiedByTaking() {
        ChargePlans plans = new ChargePlans();
        plans.good(1, 1, 6);
        plans.heat(6, 6);
        plans.plan(0, Yard.STEPS);
        Check.equal("ahead of the take", 6, plans.bound(0));
        plans.take(0);
        Check.meaning("after the take", () -> plans.bound(0));
    }
}
