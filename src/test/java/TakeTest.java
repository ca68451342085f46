/** Promise 15: take. */
public final class TakeTest {
    public static void main(String[] args) {
        taken();
        severalHeatsFromOneStock();
        tooFewOfALaterGood();
        limitsDoNotBindTaking();
        Check.end();
    }

    private static void stocks(String when, ChargePlans plans, int... due) {
        for (int good = 0; good < due.length; good++) {
            Check.equal(when + ": stock(" + good + ")", due[good], plans.stock(good));
        }
    }

    private static void taken() {
        ChargePlans plans = Yard.make();
        plans.plan(0, Yard.STEPS);
        stocks("planned", plans, 6, 4, 3);
        Check.equal("take", 550, plans.take(0));
        stocks("taken", plans, 6, 2, 0);
        Check.turn("amount after taking", () -> plans.amount(0, 0));
        Check.turn("take after taking", () -> plans.take(0));
        stocks("taken once", plans, 6, 2, 0);
        Check.equal("planned from the rest", 900, plans.plan(0, Yard.STEPS));
        Yard.amounts("planned from the rest", plans, 0, 1, 2, 0);
    }

    private static void severalHeatsFromOneStock() {
        ChargePlans plans = Yard.make();
        plans.heat(200, 260);
        plans.plan(0, Yard.STEPS);
        plans.plan(1, Yard.STEPS);
        Check.equal("the first is taken", 550, plans.take(0));
        Check.meaning("too few are left for the second", () -> plans.take(1));
        stocks("after the refused one", plans, 6, 2, 0);
        Yard.amounts("the plan stays", plans, 1, 0, 2, 3);
        plans.arrive(2, 2);
        Check.meaning("one is missing yet", () -> plans.take(1));
        plans.arrive(2, 1);
        Check.equal("just enough", 550, plans.take(1));
        stocks("both are taken", plans, 6, 0, 0);
    }

    private static void tooFewOfALaterGood() {
        ChargePlans plans = new ChargePlans();
        plans.good(10, 1, 4);
        plans.good(7, 1, 1);
        plans.heat(17, 17);
        plans.heat(7, 7);
        plans.plan(0, Yard.STEPS);
        plans.plan(1, Yard.STEPS);
        Check.equal("good 1 is taken", 1, plans.take(1));
        Check.meaning("good 0 is there, good 1 is not", () -> plans.take(0));
        stocks("after the refused one", plans, 4, 0);
    }

    private static void limitsDoNotBindTaking() {
        ChargePlans plans = Yard.make();
        plans.plan(0, Yard.STEPS);
        plans.limit(2, 0);
        Check.equal("take with a limit set later", 550, plans.take(0));
        stocks("taken", plans, 6, 2, 0);
    }
}
