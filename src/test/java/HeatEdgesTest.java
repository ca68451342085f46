/** Promise 6 at its edges: "Turn: there are 4; range: the weights." */
public final class HeatEdgesTest {
    private static final State EMPTY = State.empty();
    private static final State FULL = State.full();

    public static void main(String[] args) {
        weightsFrom1To100000();
        outsideOfTheRange();
        fourHeatsAndOneMore();
        turnAheadOfRange();
        valuesAtFirst();
        Check.end();
    }

    private static void weightsFrom1To100000() {
        int[][] weights = {{1, 1}, {1, 2}, {2, 2}, {1, 100000}, {99999, 100000}, {100000, 100000}};
        for (int[] weight : weights) {
            ChargePlans plans = new ChargePlans();
            Check.equal("heat", 0, plans.heat(weight[0], weight[1]));
            plans.good(1, 1, 1);
            Check.equal("bound of low weight " + weight[0], weight[0], plans.bound(0));
            Check.equal("plan from low weight " + weight[0], weight[0] == 1 ? 1 : -1, plans.plan(0, Yard.STEPS));
        }
    }

    private static void outsideOfTheRange() {
        EMPTY.spansOutside("the first heat", 1, 100000, (plans, low, high) -> plans.heat(low, high));
        State.yard().spansOutside("the second heat", 1, 100000, (plans, low, high) -> plans.heat(low, high));
    }

    private static void fourHeatsAndOneMore() {
        ChargePlans four = new ChargePlans();
        for (int heat = 0; heat < 4; heat++) {
            Check.equal("heat " + heat, heat, four.heat(10 + heat, 20 + heat));
        }
        four.good(1, 1, 1);
        for (int heat = 0; heat < 4; heat++) {
            Check.equal("bound of heat " + heat, 10 + heat, four.bound(heat));
        }
        FULL.turn("a fifth heat", plans -> plans.heat(1, 1));
        FULL.turn("a fifth heat, and a sixth", plans -> {
            Check.turn("a fifth heat", () -> plans.heat(1, 1));
            plans.heat(1, 1);
        });
    }

    private static void turnAheadOfRange() {
        FULL.turn("a fifth heat of 0", plans -> plans.heat(0, 1));
        FULL.turn("a fifth heat of 100001", plans -> plans.heat(1, 100001));
        FULL.turn("a fifth heat, low above high", plans -> plans.heat(2, 1));
        FULL.turn("a fifth heat of far ints", plans -> plans.heat(Ints.LEAST, Ints.MOST));
    }

    /** Spans of "0 and 10,000 at first", MOST "30 at first", and no plan. */
    private static void valuesAtFirst() {
        ChargePlans plans = new ChargePlans();
        for (int good = 0; good < 5; good++) {
            plans.good(1000, 100000, 6);
            plans.element(good, 0, 0, 10000);
            plans.element(good, 1, 0, 0);
            plans.element(good, 2, 10000, 10000);
        }
        for (int heat = 0; heat < 4; heat++) {
            int of = heat;
            plans.heat(30000, 30000);
            Check.turn("amount at first", () -> plans.amount(of, 0));
            Check.turn("worst at first", () -> plans.worst(of, 0, 0, 0));
            Check.turn("take at first", () -> plans.take(of));
            Check.equal("clash at first", 0, plans.clash(heat));
            Check.equal("thirty of the dearest bundles", 3000000, plans.plan(heat, Yard.STEPS));
            Yard.amounts("thirty bundles", plans, heat, 6, 6, 6, 6, 6);
        }
    }
}
