/** Promise 1 at its edges: "No goods, no heats." */
public final class NewObjectEdgesTest {
    private static final State EMPTY = State.empty();

    public static void main(String[] args) {
        nothingWasPlanned();
        onlyGoods();
        onlyHeats();
        allCallsOfALife();
        Check.end();
    }

    private static void nothingWasPlanned() {
        EMPTY.turn("planned 0", plans -> plans.planned(0));
        EMPTY.turn("planned 1", plans -> plans.planned(1));
    }

    private static void onlyGoods() {
        State goods = new State(() -> {
            ChargePlans plans = new ChargePlans();
            for (int good = 0; good < 5; good++) {
                plans.good(1, 1, 1);
            }
            return plans;
        });
        goods.index("plan without heats", plans -> plans.plan(0, 100));
        goods.index("amount without heats", plans -> plans.amount(0, 0));
        goods.index("bound without heats", plans -> plans.bound(0));
        goods.index("clash without heats", plans -> plans.clash(0));
        goods.turn("planned without heats", plans -> plans.planned(0));
    }

    private static void onlyHeats() {
        State heats = new State(() -> {
            ChargePlans plans = new ChargePlans();
            for (int heat = 0; heat < 4; heat++) {
                plans.heat(1, 100000);
            }
            return plans;
        });
        heats.index("amount without goods is an index ahead of a turn", plans -> plans.amount(0, 0));
        heats.turn("worst without goods", plans -> plans.worst(0, 0, 0, 0));
        heats.turn("take without goods", plans -> plans.take(0));
        heats.meaning("bound without goods", plans -> plans.bound(0));
        heats.index("stock without goods", plans -> plans.stock(0));
        ChargePlans plans = heats.make();
        for (int heat = 0; heat < 4; heat++) {
            Check.equal("plan without goods", -1, plans.plan(heat, 100000));
            Check.equal("spent without goods", 0, plans.planned(0));
            Check.equal("steps without goods", 0, plans.planned(1));
            Check.equal("clash without goods", 1, plans.clash(heat));
        }
    }

    /** "An object is used for at most 512 calls": the last ones answer as the first ones did. */
    private static void allCallsOfALife() {
        ChargePlans plans = Yard.make();
        int made = 7;
        while (made + 5 <= 512) {
            Check.equal("plan", 550, plans.plan(0, Yard.STEPS));
            Check.equal("clash", 0, plans.clash(0));
            Check.equal("take", 550, plans.take(0));
            Check.equal("arrive 1", 4, plans.arrive(1, 2));
            Check.equal("arrive 2", 3, plans.arrive(2, 3));
            made += 5;
        }
        Check.equal("calls made", 512, made);
    }
}
