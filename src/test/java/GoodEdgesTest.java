/** Promise 2 at its edges: "Turn: there are 5; range: kilos, cents, stock." */
public final class GoodEdgesTest {
    private static final State EMPTY = State.empty();
    private static final State FOUR = new State(GoodEdgesTest::fourGoods);
    private static final State FULL = State.full();

    public static void main(String[] args) {
        kilosFrom1To1000();
        centsFrom0To100000();
        stockFrom0To6();
        outsideOfTheRanges();
        fiveGoodsAndOneMore();
        turnAheadOfRange();
        valuesAtFirst();
        Check.end();
    }

    private static ChargePlans fourGoods() {
        ChargePlans plans = new ChargePlans();
        for (int good = 0; good < 4; good++) {
            plans.good(10 + good, 20 + good, 1 + good);
        }
        plans.heat(23, 23);
        plans.plan(0, Yard.STEPS);
        return plans;
    }

    private static void kilosFrom1To1000() {
        for (int kilos : new int[] {1, 2, 999, 1000}) {
            ChargePlans plans = new ChargePlans();
            Check.equal("good of " + kilos + " kilos", 0, plans.good(kilos, 5, 1));
            plans.heat(kilos, kilos);
            Check.equal("plan of " + kilos + " kilos", 5, plans.plan(0, Yard.STEPS));
        }
    }

    private static void centsFrom0To100000() {
        for (int cents : new int[] {0, 1, 99999, 100000}) {
            ChargePlans plans = new ChargePlans();
            Check.equal("good of " + cents + " cents", 0, plans.good(1, cents, 6));
            plans.heat(1, 1);
            plans.heat(6, 6);
            Check.equal("plan of " + cents + " cents", cents, plans.plan(0, Yard.STEPS));
            Check.equal("plan of six at " + cents + " cents", 6 * cents, plans.plan(1, Yard.STEPS));
        }
    }

    private static void stockFrom0To6() {
        for (int stock = 0; stock <= 6; stock++) {
            ChargePlans plans = new ChargePlans();
            Check.equal("good with a stock of " + stock, 0, plans.good(1, 1, stock));
            Check.equal("stock", stock, plans.stock(0));
            plans.heat(Math.max(1, stock), Math.max(1, stock));
            plans.heat(stock + 1, stock + 1);
            Check.equal("all of the stock", stock == 0 ? -1 : stock, plans.plan(0, Yard.STEPS));
            Check.equal("one more than the stock", -1, plans.plan(1, Yard.STEPS));
        }
    }

    private static void outsideOfTheRanges() {
        for (State state : new State[] {EMPTY, FOUR}) {
            state.outside("good by kilos", 1, 1000, (plans, kilos) -> plans.good(kilos, 1, 1));
            state.outside("good by cents", 0, 100000, (plans, cents) -> plans.good(1, cents, 1));
            state.outside("good by stock", 0, 6, (plans, stock) -> plans.good(1, 1, stock));
            state.range("good with nothing right", plans -> plans.good(0, -1, 7));
            state.range("good with the least ints", plans -> plans.good(Ints.LEAST, Ints.LEAST, Ints.LEAST));
            state.range("good with the greatest ints", plans -> plans.good(Ints.MOST, Ints.MOST, Ints.MOST));
        }
    }

    private static void fiveGoodsAndOneMore() {
        ChargePlans four = FOUR.make();
        Check.equal("the fifth good", 4, four.good(1000, 100000, 6));
        Check.equal("the fifth good's stock", 6, four.stock(4));
        Check.equal("the first good's stock", 1, four.stock(0));
        four.heat(1000, 1000);
        Check.equal("plan with the fifth good", 100000, four.plan(1, Yard.STEPS));
        Yard.amounts("plan with the fifth good", four, 1, 0, 0, 0, 0, 1);
        FULL.turn("a sixth good", plans -> plans.good(1, 1, 1));
        FULL.turn("a sixth good, and a seventh", plans -> {
            Check.turn("a sixth good", () -> plans.good(1, 1, 1));
            plans.good(1, 1, 1);
        });
    }

    private static void turnAheadOfRange() {
        FULL.turn("a sixth good of 0 kilos", plans -> plans.good(0, 1, 1));
        FULL.turn("a sixth good of -1 cents", plans -> plans.good(1, -1, 1));
        FULL.turn("a sixth good with a stock of 7", plans -> plans.good(1, 1, 7));
        FULL.turn("a sixth good of the least ints", plans -> plans.good(Ints.LEAST, Ints.LEAST, Ints.LEAST));
    }

    /** "a LIMIT in a charge (0 .. 6; 6 at first)", "a LOW and a HIGH share (..; 0 and 0 at first)". */
    private static void valuesAtFirst() {
        ChargePlans plans = new ChargePlans();
        plans.heat(30, 30);
        for (int element = 0; element < 4; element++) {
            plans.span(0, element, 0, 0);
        }
        for (int good = 0; good < 5; good++) {
            plans.good(1, 1, 6);
        }
        Check.equal("six of each good without any element", 30, plans.plan(0, Yard.STEPS));
        for (int element = 0; element < 4; element++) {
            Check.equal("low share at first", 0, plans.worst(0, element, 0, 0));
            Check.equal("high share at first", 0, plans.worst(0, element, 1, 0));
            plans.span(0, element, 1, 10000);
            Check.equal("no plan with some of element " + element, -1, plans.plan(0, Yard.STEPS));
            plans.span(0, element, 0, 0);
            plans.plan(0, Yard.STEPS);
        }
    }
}
