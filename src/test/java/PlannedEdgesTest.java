/** Promise 10 at its edges: "Index: no such what; turn: there was none." */
public final class PlannedEdgesTest {
    private static final State FULL = State.full();
    private static final State YARD = State.yard();

    public static void main(String[] args) {
        noSuchWhat();
        thereWasNone();
        indexAheadOfTurn();
        refusedPlanningsAreNone();
        spentOrNot();
        theLatestOfAllHeats();
        Check.end();
    }

    private static void noSuchWhat() {
        FULL.noSuchIndex("planned", 2, (plans, what) -> plans.planned(what));
        Yard.latest("0 and 1 are", FULL.make(), 1, 112);
    }

    private static void thereWasNone() {
        YARD.turn("planned 0", plans -> plans.planned(0));
        YARD.turn("planned 1", plans -> plans.planned(1));
        YARD.turn("planned after looks that plan nothing", plans -> {
            plans.clash(0);
            plans.bound(0);
            plans.stock(0);
            plans.planned(0);
        });
    }

    private static void indexAheadOfTurn() {
        YARD.noSuchIndex("planned ahead of any planning", 2, (plans, what) -> plans.planned(what));
        State.empty().noSuchIndex("planned of a new object", 2, (plans, what) -> plans.planned(what));
    }

    private static void refusedPlanningsAreNone() {
        ChargePlans plans = Yard.make();
        Check.range("-1 steps", () -> plans.plan(0, -1));
        Check.range("100001 steps", () -> plans.plan(0, 100001));
        Check.index("no such heat", () -> plans.plan(1, 5));
        Check.turn("there was none", () -> plans.planned(0));
        plans.plan(0, 5);
        Check.range("-1 steps", () -> plans.plan(0, -1));
        Check.index("no such heat", () -> plans.plan(1, 7));
        Yard.latest("the planning ahead of refused ones", plans, 1, 5);
    }

    private static void spentOrNot() {
        ChargePlans plans = new ChargePlans();
        plans.heat(1, 1);
        plans.plan(0, 0);
        Yard.latest("no goods, 0 steps", plans, 0, 0);
        plans.good(1, 1, 0);
        plans.plan(0, 0);
        Yard.latest("a good without stock, 0 steps", plans, 1, 0);
        plans.plan(0, 1);
        Yard.latest("a good without stock, 1 step", plans, 0, 1);
        plans.arrive(0, 1);
        plans.plan(0, 1);
        Yard.latest("a good with one bundle, 1 step", plans, 1, 1);
        plans.plan(0, 2);
        Yard.latest("a good with one bundle, 2 steps", plans, 0, 2);
        plans.plan(0, 100000);
        Yard.latest("a good with one bundle, most steps", plans, 0, 2);
    }

    private static void theLatestOfAllHeats() {
        ChargePlans plans = Yard.full();
        for (int heat = 3; heat >= 0; heat--) {
            plans.plan(heat, heat);
            Yard.latest("heat " + heat, plans, 1, heat);
        }
        plans.plan(1, Yard.STEPS);
        plans.take(1);
        Check.equal("not spent after a take", 0, plans.planned(0));
    }
}
