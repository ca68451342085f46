/** Promise 11 at its edges: "Index: no such heat or good; turn: it has no plan." */
public final class AmountEdgesTest {
    private static final State FULL = State.full();

    public static void main(String[] args) {
        noSuchIndex();
        noPlan();
        fromNoneToSix();
        aGoodThatCameLater();
        Check.end();
    }

    /** The yard and the new object have no plan, so here the index comes ahead of the turn, too. */
    private static void noSuchIndex() {
        State.noSuchHeat("amount by heat", (plans, heat) -> plans.amount(heat, 0));
        State.noSuchGood("amount by good", (plans, good) -> plans.amount(0, good));
        State planned = new State(() -> {
            ChargePlans plans = Yard.make();
            plans.plan(0, Yard.STEPS);
            return plans;
        });
        planned.noSuchIndex("amount in a plan of three goods", 3, (plans, good) -> plans.amount(0, good));
    }

    private static void noPlan() {
        State.yard().turn("nothing was planned", plans -> plans.amount(0, 2));
        for (int good = 0; good < 5; good++) {
            int of = good;
            FULL.turn("never planned, good " + good, plans -> plans.amount(2, of));
            FULL.turn("none was found, good " + good, plans -> plans.amount(3, of));
        }
        ChargePlans plans = Yard.full();
        plans.take(0);
        Check.turn("taken", () -> plans.amount(0, 0));
        plans.plan(1, 0);
        Check.turn("none was found any more", () -> plans.amount(1, 0));
    }

    private static void fromNoneToSix() {
        for (int bundles = 1; bundles <= 6; bundles++) {
            ChargePlans plans = new ChargePlans();
            plans.good(1, 1, 6);
            plans.good(1, 2, 6);
            plans.heat(bundles, bundles);
            plans.plan(0, Yard.STEPS);
            Yard.amounts(bundles + " bundles", plans, 0, bundles, 0);
        }
    }

    private static void aGoodThatCameLater() {
        ChargePlans plans = Yard.make();
        plans.plan(0, Yard.STEPS);
        Check.index("ahead of its coming", () -> plans.amount(0, 3));
        plans.good(1, 0, 6);
        Check.equal("after its coming", 0, plans.amount(0, 3));
        Check.index("the next one", () -> plans.amount(0, 4));
    }
}
