/** Promise 4 at its edges: "Index: no such good; range: it", and a limit of 0. */
public final class LimitEdgesTest {
    private static final State FULL = State.full();

    public static void main(String[] args) {
        limitsFrom0To6();
        limitBesideStock();
        limitOf0LeavesTheGoodOut();
        outsideOfTheRange();
        noSuchGood();
        indexAheadOfRange();
        Check.end();
    }

    private static void limitsFrom0To6() {
        ChargePlans plans = new ChargePlans();
        plans.good(1, 1, 6);
        plans.heat(1, 1);
        plans.heat(2, 2);
        plans.heat(6, 6);
        int[][] due = {{-1, -1, -1}, {1, -1, -1}, {1, 2, -1}, {1, 2, -1}, {1, 2, -1}, {1, 2, -1}, {1, 2, 6}};
        for (int limit = 0; limit <= 6; limit++) {
            plans.limit(0, limit);
            for (int heat = 0; heat < 3; heat++) {
                Check.equal("heat " + heat + " by limit " + limit, due[limit][heat], plans.plan(heat, Yard.STEPS));
            }
        }
    }

    /** "A charge takes of each good not more bundles than its stock and its limit." */
    private static void limitBesideStock() {
        for (int stock = 0; stock <= 6; stock++) {
            for (int limit = 0; limit <= 6; limit++) {
                ChargePlans plans = new ChargePlans();
                plans.good(1, 0, stock);
                plans.limit(0, limit);
                plans.heat(100, 100);
                plans.plan(0, Yard.STEPS);
                Check.equal("tries with stock " + stock + " and limit " + limit, Math.min(stock, limit) + 1,
                    plans.planned(1));
            }
        }
    }

    private static void limitOf0LeavesTheGoodOut() {
        ChargePlans plans = new ChargePlans();
        plans.good(1, 1, 6);
        plans.good(1, 7, 6);
        plans.heat(1, 6);
        plans.limit(0, 0);
        Check.equal("plan without good 0", 7, plans.plan(0, Yard.STEPS));
        Check.equal("bound without good 0", 7, plans.bound(0));
        plans.limit(1, 0);
        Check.equal("plan without any good", -1, plans.plan(0, Yard.STEPS));
        Check.equal("a try for each good", 2, plans.planned(1));
        Check.equal("clash without any good", 1, plans.clash(0));
        Check.equal("the stock stays", 6, plans.stock(0));
    }

    private static void outsideOfTheRange() {
        for (int good = 0; good < 5; good++) {
            int of = good;
            FULL.outside("limit of good " + good, 0, 6, (plans, limit) -> plans.limit(of, limit));
        }
    }

    private static void noSuchGood() {
        State.noSuchGood("limit", (plans, good) -> plans.limit(good, 1));
    }

    private static void indexAheadOfRange() {
        FULL.index("no such good, limit 7", plans -> plans.limit(5, 7));
        FULL.index("no such good, limit -1", plans -> plans.limit(-1, -1));
        FULL.index("no such good, least int", plans -> plans.limit(Ints.MOST, Ints.LEAST));
        State.empty().index("no goods, limit 7", plans -> plans.limit(0, 7));
    }
}
