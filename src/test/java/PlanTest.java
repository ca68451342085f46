/** Promise 9: plan. */
public final class PlanTest {
    public static void main(String[] args) {
        leastCents();
        firstOfTheSameCents();
        worstEndsRule();
        noPlanWhenNoneIsFound();
        changesLeaveThePlan();
        goodsForNothing();
        Check.end();
    }

    private static void leastCents() {
        ChargePlans plans = Yard.make();
        Check.equal("plan of the yard", 550, plans.plan(0, Yard.STEPS));
        Yard.amounts("plan of the yard", plans, 0, 0, 2, 3);
        Check.equal("planning takes no stock", 3, plans.stock(2));
    }

    private static void firstOfTheSameCents() {
        ChargePlans plans = new ChargePlans();
        plans.good(10, 5, 6);
        plans.good(10, 5, 2);
        plans.good(10, 5, 2);
        plans.heat(30, 30);
        Check.equal("three alike", 15, plans.plan(0, Yard.STEPS));
        Yard.amounts("fewest of the first goods", plans, 0, 0, 1, 2);
    }

    private static void worstEndsRule() {
        ChargePlans plans = Yard.make();
        plans.span(0, 0, 0, 100);
        Check.equal("only the pure good", 1000, plans.plan(0, Yard.STEPS));
        Yard.amounts("only the pure good", plans, 0, 2, 0, 0);
        plans.span(0, 0, 100, 10000);
        Check.equal("low shares reach 100", 550, plans.plan(0, Yard.STEPS));
        plans.span(0, 0, 100, 200);
        Check.equal("high shares stay at 200", 800, plans.plan(0, Yard.STEPS));
        Yard.amounts("four bundles", plans, 0, 0, 4, 0);
        plans.span(0, 0, 101, 200);
        Check.equal("of the same cents one that comes later", 800, plans.plan(0, Yard.STEPS));
        Yard.amounts("of the same cents one that comes later", plans, 0, 1, 1, 2);
    }

    private static void noPlanWhenNoneIsFound() {
        ChargePlans plans = Yard.make();
        plans.plan(0, Yard.STEPS);
        Check.equal("no steps", -1, plans.plan(0, 0));
        Check.turn("amount after no steps", () -> plans.amount(0, 0));
        plans.plan(0, Yard.STEPS);
        plans.span(0, 0, 0, 15);
        Check.equal("no charge", -1, plans.plan(0, Yard.STEPS));
        Check.turn("worst after no charge", () -> plans.worst(0, 0, 0, 0));
        Check.turn("take after no charge", () -> plans.take(0));
    }

    private static void changesLeaveThePlan() {
        ChargePlans plans = Yard.make();
        plans.plan(0, Yard.STEPS);
        plans.limit(1, 0);
        plans.element(1, 0, 0, 10000);
        plans.span(0, 0, 0, 0);
        plans.most(0, 0);
        plans.arrive(1, 1);
        plans.clash(0);
        plans.heat(1, 100);
        plans.plan(1, Yard.STEPS);
        plans.good(1, 1, 1);
        Yard.amounts("after changes", plans, 0, 0, 2, 3, 0);
        Check.equal("take after changes", 550, plans.take(0));
    }

    private static void goodsForNothing() {
        ChargePlans plans = new ChargePlans();
        plans.good(10, 0, 2);
        plans.good(10, 0, 2);
        plans.heat(10, 100);
        Check.equal("goods for nothing", 0, plans.plan(0, Yard.STEPS));
        Yard.amounts("goods for nothing", plans, 0, 0, 1);
        Check.equal("all others are given up", 6, plans.planned(1));
        Check.equal("taken for nothing", 0, plans.take(0));
    }
}
