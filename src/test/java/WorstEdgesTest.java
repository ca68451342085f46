/** Promise 12 at its edges: "Index: no such heat, element, end or part; turn: it has no plan; meaning: ..". */
public final class WorstEdgesTest {
    private static final State FULL = State.full();
    private static final State YARD = State.yard();

    public static void main(String[] args) {
        noSuchIndex();
        noPlan();
        noPlanIsWithoutBundles();
        lowestTerms();
        largestNumbers();
        Check.end();
    }

    /** The yard and the new object have no plan, so here the index comes ahead of the turn, too. */
    private static void noSuchIndex() {
        State.noSuchHeat("worst by heat", (plans, heat) -> plans.worst(heat, 0, 0, 0));
        for (State state : new State[] {FULL, YARD}) {
            state.noSuchIndex("worst by element", 4, (plans, element) -> plans.worst(0, element, 0, 0));
            state.noSuchIndex("worst by end", 2, (plans, end) -> plans.worst(0, 0, end, 0));
            state.noSuchIndex("worst by part", 2, (plans, part) -> plans.worst(0, 0, 0, part));
            state.noSuchIndex("worst by all", 4, (plans, any) -> plans.worst(any, any, any, any));
        }
    }

    private static void noPlan() {
        YARD.turn("nothing was planned", plans -> plans.worst(0, 3, 1, 1));
        FULL.turn("never planned", plans -> plans.worst(2, 0, 0, 0));
        FULL.turn("none was found", plans -> plans.worst(3, 3, 1, 1));
        ChargePlans plans = Yard.full();
        plans.take(0);
        Check.turn("taken", () -> plans.worst(0, 0, 0, 0));
        plans.plan(1, 0);
        Check.turn("none was found any more", () -> plans.worst(1, 0, 0, 0));
    }

    /** The case of a plan without bundles never comes up, as a low weight is at least 1. */
    private static void noPlanIsWithoutBundles() {
        ChargePlans plans = new ChargePlans();
        plans.heat(1, 100000);
        Check.equal("no goods", -1, plans.plan(0, Yard.STEPS));
        Check.turn("no goods", () -> plans.worst(0, 0, 0, 0));
        plans.good(1, 0, 0);
        Check.equal("no stock", -1, plans.plan(0, Yard.STEPS));
        Check.turn("no stock", () -> plans.worst(0, 0, 0, 0));
        plans.arrive(0, 6);
        Check.equal("goods for nothing", 0, plans.plan(0, Yard.STEPS));
        Check.equal("lower number", 1, plans.worst(0, 0, 0, 1));
    }

    private static void expect(ChargePlans plans, int end, long upper, long lower) {
        Check.equal("upper of end " + end, upper, plans.worst(0, 0, end, 0));
        Check.equal("lower of end " + end, lower, plans.worst(0, 0, end, 1));
    }

    /** 6 and 4 kilos: the sums are 6 times the one share and 4 times the other, over 10. */
    private static void lowestTerms() {
        ChargePlans plans = new ChargePlans();
        plans.good(6, 1, 1);
        plans.good(4, 1, 1);
        plans.heat(10, 10);
        plans.plan(0, Yard.STEPS);
        expect(plans, 0, 0, 1);
        expect(plans, 1, 0, 1);
        plans.element(0, 0, 0, 1);
        expect(plans, 0, 0, 1);
        expect(plans, 1, 3, 5);
        plans.element(1, 0, 1, 1);
        expect(plans, 0, 2, 5);
        expect(plans, 1, 1, 1);
        plans.element(0, 0, 10000, 10000);
        plans.element(1, 0, 0, 10000);
        expect(plans, 0, 6000, 1);
        expect(plans, 1, 10000, 1);
    }

    /** 24,989 is a prime number, so nothing can be taken out of a sum over so many kilos but itself. */
    private static void largestNumbers() {
        ChargePlans plans = new ChargePlans();
        for (int good = 0; good < 4; good++) {
            plans.good(1000, 1, 6);
            plans.element(good, 0, 0, 10000);
        }
        plans.good(989, 1, 1);
        plans.element(4, 0, 1, 9999);
        plans.heat(24989, 24989);
        plans.plan(0, Yard.STEPS);
        Check.equal("all bundles", 1, plans.amount(0, 4));
        expect(plans, 0, 989, 24989);
        expect(plans, 1, 24000L * 10000 + 989L * 9999, 24989);
    }
}
