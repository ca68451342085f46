/** Promise 14 at its edges: "0 when there is a charge by which all rules hold. Index: no such heat." */
public final class ClashEdgesTest {
    public static void main(String[] args) {
        noSuchHeat();
        withoutAnythingToCharge();
        theLastChargeOfAllHolds();
        oneChargeHoldsAndIsLost();
        leftOutForGood();
        chargesThatNoPlanningFound();
        clashesChangeNothing();
        Check.end();
    }

    private static void noSuchHeat() {
        State.noSuchHeat("clash", (plans, heat) -> plans.clash(heat));
    }

    private static void withoutAnythingToCharge() {
        ChargePlans plans = new ChargePlans();
        plans.heat(1, 100000);
        plans.span(0, 0, 10000, 10000);
        plans.most(0, 0);
        Check.equal("no goods", 1, plans.clash(0));
        plans.good(1, 0, 0);
        Check.equal("an empty stock", 1, plans.clash(0));
        plans.limit(0, 0);
        plans.arrive(0, 6);
        Check.equal("a limit of 0", 1, plans.clash(0));
        plans.limit(0, 1);
        Check.equal("something to charge, but too poor and too many", 1 | 1 << 10, plans.clash(0));
        plans.most(0, 1);
        Check.equal("too poor", 1 | 1 << 3, plans.clash(0));
    }

    /** The charge of all bundles is the last one that is looked at. */
    private static void theLastChargeOfAllHolds() {
        ChargePlans plans = new ChargePlans();
        for (int good = 0; good < 5; good++) {
            plans.good(1000, 100000, 6);
        }
        plans.heat(30000, 30000);
        plans.heat(30001, 100000);
        plans.most(0, 30);
        Check.equal("all bundles", 0, plans.clash(0));
        plans.most(0, 29);
        Check.equal("one bundle too many", 1 | 1 << 10, plans.clash(0));
        Check.equal("one kilo too few", 1, plans.clash(1));
    }

    private static void oneChargeHoldsAndIsLost() {
        ChargePlans plans = new ChargePlans();
        plans.good(7, 1, 1);
        plans.good(11, 1, 1);
        plans.heat(18, 18);
        Check.equal("both bundles", 0, plans.clash(0));
        plans.plan(0, Yard.STEPS);
        plans.take(0);
        Check.equal("both are taken", 1, plans.clash(0));
        plans.arrive(1, 1);
        Check.equal("one is back", 1, plans.clash(0));
        plans.arrive(0, 1);
        Check.equal("both are back", 0, plans.clash(0));
    }

    /** "each rule is left out for good when there is none without it, too": of two causes the later one stays. */
    private static void leftOutForGood() {
        for (int first = 1; first <= 10; first++) {
            for (int second = 1; second <= 10; second++) {
                ChargePlans plans = brokenBy(first, second);
                int due = 1 | 1 << Math.max(first, second);
                Check.equal("rules " + first + " and " + second + " are broken", due, plans.clash(0));
            }
        }
    }

    /** The heat's ends are just what its only bundle has, but for the end of each of the two rules. */
    private static ChargePlans brokenBy(int first, int second) {
        ChargePlans plans = new ChargePlans();
        plans.good(first == 1 || second == 1 ? 2 : 1, 1, 1);
        plans.heat(1, 1);
        plans.most(0, first == 10 || second == 10 ? 0 : 1);
        for (int element = 0; element < 4; element++) {
            int tooRich = 2 + 2 * element;
            int tooPoor = 3 + 2 * element;
            plans.span(0, element, 50, 50);
            plans.element(0, element, first == tooPoor || second == tooPoor ? 49 : 50,
                first == tooRich || second == tooRich ? 51 : 50);
        }
        return plans;
    }

    /** A clash is told of all charges, not of those that a planning went through. */
    private static void chargesThatNoPlanningFound() {
        ChargePlans plans = Yard.make();
        Check.equal("no steps for a plan", -1, plans.plan(0, 0));
        Check.equal("clash after no steps", 0, plans.clash(0));
        Check.equal("too few steps for a plan", -1, plans.plan(0, 10));
        Check.equal("clash after too few steps", 0, plans.clash(0));
    }

    private static void clashesChangeNothing() {
        Check.same("after clashes", Look.at(Yard::full), Look.at(() -> {
            ChargePlans plans = Yard.full();
            for (int heat = 0; heat < 4; heat++) {
                plans.clash(heat);
            }
            return plans;
        }));
    }
}
