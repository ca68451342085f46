/** Promise 15 at its edges: "Index: no such heat; turn: it has no plan; meaning: too few are left of a good." */
public final class TakeEdgesTest {
    private static final State FULL = State.full();

    public static void main(String[] args) {
        noSuchHeat();
        noPlan();
        justEnoughIsLeft();
        oneTooFewOfEachGood();
        indexAheadOfMeaning();
        turnAheadOfMeaning();
        plansForNothing();
        allOfTheStock();
        Check.end();
    }

    /** The yard and the new object have no plan, so here the index comes ahead of the turn, too. */
    private static void noSuchHeat() {
        State.noSuchHeat("take", (plans, heat) -> plans.take(heat));
    }

    private static void noPlan() {
        FULL.turn("never planned", plans -> plans.take(2));
        FULL.turn("none was found", plans -> plans.take(3));
        State taken = new State(() -> {
            ChargePlans plans = Yard.full();
            plans.take(0);
            plans.arrive(2, 1);
            return plans;
        });
        taken.turn("taken already", plans -> plans.take(0));
        State dropped = new State(() -> {
            ChargePlans plans = Yard.full();
            plans.plan(0, 0);
            return plans;
        });
        dropped.turn("planned once more with 0 steps", plans -> plans.take(0));
    }

    /** The plan of heat 0 needs both bundles of each good; some of one good are taken for heat 1 ahead of it. */
    private static ChargePlans twoOfEach(int good, int ahead) {
        ChargePlans plans = new ChargePlans();
        int[] kilos = {1, 20, 300, 500, 900};
        for (int of = 0; of < 5; of++) {
            plans.good(kilos[of], 1, 2);
        }
        plans.heat(2 * (1 + 20 + 300 + 500 + 900), 2 * (1 + 20 + 300 + 500 + 900));
        plans.heat(ahead * kilos[good], ahead * kilos[good]);
        plans.plan(0, Yard.STEPS);
        plans.plan(1, Yard.STEPS);
        plans.take(1);
        return plans;
    }

    private static void justEnoughIsLeft() {
        for (int good = 0; good < 5; good++) {
            ChargePlans plans = twoOfEach(good, 1);
            Check.equal("one is left", 1, plans.stock(good));
            plans.arrive(good, 1);
            Check.equal("just enough of good " + good, 10, plans.take(0));
            for (int of = 0; of < 5; of++) {
                Check.equal("stock of good " + of, 0, plans.stock(of));
            }
        }
    }

    private static void oneTooFewOfEachGood() {
        for (int good = 0; good < 5; good++) {
            int of = good;
            new State(() -> twoOfEach(of, 1)).meaning("one too few of good " + good, plans -> plans.take(0));
            new State(() -> twoOfEach(of, 2)).meaning("none of good " + good, plans -> plans.take(0));
        }
    }

    private static void indexAheadOfMeaning() {
        State state = new State(() -> twoOfEach(0, 2));
        state.noSuchIndex("take where too few are left", 2, (plans, heat) -> plans.take(heat));
    }

    private static void turnAheadOfMeaning() {
        State state = new State(() -> {
            ChargePlans plans = twoOfEach(0, 2);
            plans.plan(0, 0);
            return plans;
        });
        state.turn("no plan, and too few are left", plans -> plans.take(0));
        state.turn("taken, and too few are left for it once more", plans -> plans.take(1));
    }

    /** A plan of 0 cents is a plan. */
    private static void plansForNothing() {
        ChargePlans plans = new ChargePlans();
        plans.good(1, 0, 1);
        plans.heat(1, 1);
        plans.heat(1, 1);
        plans.plan(0, Yard.STEPS);
        plans.plan(1, Yard.STEPS);
        Check.equal("taken for nothing", 0, plans.take(0));
        Check.equal("an empty stock", 0, plans.stock(0));
        Check.turn("no plan then", () -> plans.take(0));
        Check.meaning("too few for the other", () -> plans.take(1));
        plans.arrive(0, 1);
        Check.equal("the other for nothing", 0, plans.take(1));
    }

    private static void allOfTheStock() {
        ChargePlans plans = new ChargePlans();
        for (int good = 0; good < 5; good++) {
            plans.good(1000, 100000, 6);
        }
        for (int heat = 0; heat < 4; heat++) {
            plans.heat(30000, 30000);
            Check.equal("plan", 3000000, plans.plan(heat, Yard.STEPS));
        }
        Check.equal("the most cents", 3000000, plans.take(3));
        for (int heat = 0; heat < 3; heat++) {
            int of = heat;
            Check.meaning("nothing is left for heat " + heat, () -> plans.take(of));
            Yard.amounts("its plan stays", plans, heat, 6, 6, 6, 6, 6);
        }
        for (int good = 0; good < 5; good++) {
            Check.equal("an empty stock", 0, plans.stock(good));
            plans.arrive(good, 6);
        }
        Check.equal("all once more", 3000000, plans.take(0));
    }
}
