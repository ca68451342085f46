/** Promise 5 at its edges: "Index: no such good; range: n is below 0; meaning: there would be more than 6." */
public final class ArriveEdgesTest {
    private static final State FULL = State.full();

    public static void main(String[] args) {
        upTo6();
        moreThan6();
        sumsThatWrapAround();
        belowZero();
        noSuchGood();
        indexAheadOfRangeAndMeaning();
        limitsDoNotBind();
        Check.end();
    }

    private static State withStock(int stock) {
        return new State(() -> {
            ChargePlans plans = new ChargePlans();
            plans.good(1, 1, stock);
            plans.good(1, 1, 6 - stock);
            plans.heat(1, 6);
            return plans;
        });
    }

    private static void upTo6() {
        for (int stock = 0; stock <= 6; stock++) {
            for (int n = 0; n <= 6 - stock; n++) {
                ChargePlans plans = withStock(stock).make();
                Check.equal(n + " come to " + stock, stock + n, plans.arrive(0, n));
                Check.equal("stock", stock + n, plans.stock(0));
                Check.equal("the other stock", 6 - stock, plans.stock(1));
            }
        }
    }

    private static void moreThan6() {
        for (int stock = 0; stock <= 6; stock++) {
            State state = withStock(stock);
            int tooMany = 7 - stock;
            state.meaning(tooMany + " come to " + stock, plans -> plans.arrive(0, tooMany));
            state.meaning("7 come to " + stock, plans -> plans.arrive(0, 7));
        }
    }

    private static void sumsThatWrapAround() {
        for (int stock = 0; stock <= 6; stock++) {
            State state = withStock(stock);
            for (int below = 0; below <= 7; below++) {
                int n = Ints.MOST - below;
                state.meaning(n + " come to " + stock, plans -> plans.arrive(0, n));
            }
        }
    }

    private static void belowZero() {
        for (int stock = 0; stock <= 6; stock++) {
            State state = withStock(stock);
            for (int n : new int[] {-1, -6, -7, Ints.LEAST + 6, Ints.LEAST + 1, Ints.LEAST}) {
                state.range(n + " come to " + stock, plans -> plans.arrive(0, n));
            }
        }
    }

    private static void noSuchGood() {
        State.noSuchGood("arrive", (plans, good) -> plans.arrive(good, 0));
    }

    private static void indexAheadOfRangeAndMeaning() {
        FULL.index("no such good, n -1", plans -> plans.arrive(5, -1));
        FULL.index("no such good, n 7", plans -> plans.arrive(5, 7));
        FULL.index("no such good, least int", plans -> plans.arrive(-1, Ints.LEAST));
        FULL.index("no such good, greatest int", plans -> plans.arrive(-1, Ints.MOST));
        State.empty().index("no goods, n 7", plans -> plans.arrive(0, 7));
    }

    private static void limitsDoNotBind() {
        ChargePlans plans = new ChargePlans();
        plans.good(1, 1, 0);
        plans.limit(0, 0);
        Check.equal("six come to a good with limit 0", 6, plans.arrive(0, 6));
    }
}
