/** Promise 16 at its edges: "Index: no such good." */
public final class StockEdgesTest {
    public static void main(String[] args) {
        noSuchGood();
        fromNoneToSix();
        refusedCallsLeaveIt();
        Check.end();
    }

    private static void noSuchGood() {
        State.noSuchGood("stock", (plans, good) -> plans.stock(good));
    }

    private static void fromNoneToSix() {
        ChargePlans plans = new ChargePlans();
        plans.good(1, 1, 0);
        plans.heat(6, 6);
        Check.equal("empty", 0, plans.stock(0));
        for (int stock = 1; stock <= 6; stock++) {
            plans.arrive(0, 1);
            Check.equal("one more", stock, plans.stock(0));
        }
        plans.plan(0, Yard.STEPS);
        Check.equal("a plan leaves it", 6, plans.stock(0));
        plans.take(0);
        Check.equal("all are taken", 0, plans.stock(0));
    }

    private static void refusedCallsLeaveIt() {
        ChargePlans plans = new ChargePlans();
        plans.good(1, 1, 6);
        Check.meaning("one too many", () -> plans.arrive(0, 1));
        Check.range("less", () -> plans.arrive(0, -1));
        Check.equal("a full stock", 6, plans.stock(0));
        Check.range("a good that is refused", () -> plans.good(1, 1, 7));
        Check.index("no second good", () -> plans.stock(1));
    }
}
