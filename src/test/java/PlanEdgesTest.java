/** Promise 9 at its edges: "Index: no such heat; range: steps are not 0 .. 100,000", and the ends of planning. */
public final class PlanEdgesTest {
    private static final State FULL = State.full();

    public static void main(String[] args) {
        stepsFrom0To100000();
        outsideOfTheRange();
        noSuchHeat();
        indexAheadOfRange();
        noneFoundDropsThePlan();
        spentAheadOfATry();
        giveUpByCents();
        giveUpByKilos();
        nothingElseIsGivenUp();
        emptyStocks();
        aChargeWithoutBundlesIsNoPlan();
        fiveGoodsAndFourHeats();
        sameCentsKeepTheFirst();
        Check.end();
    }

    private static void stepsFrom0To100000() {
        ChargePlans plans = Yard.make();
        Check.equal("0 steps", -1, plans.plan(0, 0));
        Check.equal("1 step", -1, plans.plan(0, 1));
        Check.equal("99999 steps", 550, plans.plan(0, 99999));
        Check.equal("100000 steps", 550, plans.plan(0, 100000));
    }

    private static void outsideOfTheRange() {
        for (int heat = 0; heat < 4; heat++) {
            int of = heat;
            FULL.outside("plan of heat " + heat, 0, 100000, (plans, steps) -> plans.plan(of, steps));
        }
        State.yard().outside("plan ahead of any other", 0, 100000, (plans, steps) -> plans.plan(0, steps));
    }

    private static void noSuchHeat() {
        State.noSuchHeat("plan", (plans, heat) -> plans.plan(heat, 100));
    }

    private static void indexAheadOfRange() {
        FULL.index("no such heat, -1 steps", plans -> plans.plan(4, -1));
        FULL.index("no such heat, 100001 steps", plans -> plans.plan(-1, 100001));
        FULL.index("no such heat, far ints", plans -> plans.plan(Ints.MOST, Ints.LEAST));
        State.empty().index("no heats, -1 steps", plans -> plans.plan(0, -1));
    }

    private static void noneFoundDropsThePlan() {
        ChargePlans plans = Yard.full();
        Check.equal("none with 0 steps", -1, plans.plan(0, 0));
        Check.turn("amount", () -> plans.amount(0, 0));
        Check.turn("worst", () -> plans.worst(0, 0, 0, 0));
        Check.turn("take", () -> plans.take(0));
        Check.equal("the other heat's plan stays", 220, plans.take(1));
        Check.equal("the stock of good 2", 0, plans.stock(2));
        Check.equal("a plan again", 80, plans.plan(0, Yard.STEPS));
    }

    /** The tries: 0; 0 0; 0 1 for 3 cents; 1; 1 0 for 1 cent; 1 1, given up; 2, given up. */
    private static void spentAheadOfATry() {
        ChargePlans plans = new ChargePlans();
        plans.good(10, 1, 2);
        plans.good(10, 3, 1);
        plans.heat(10, 10);
        int[] due = {-1, -1, -1, 3, 3, 1, 1, 1, 1};
        for (int steps = 0; steps < due.length; steps++) {
            Check.equal("plan by " + steps + " steps", due[steps], plans.plan(0, steps));
            Check.equal("spent by " + steps + " steps", steps < 7 ? 1 : 0, plans.planned(0));
            Check.equal("taken of " + steps + " steps", Math.min(steps, 7), plans.planned(1));
            if (due[steps] >= 0) {
                Yard.amounts("plan by " + steps + " steps", plans, 0, due[steps] == 1 ? 1 : 0, due[steps] == 1 ? 0 : 1);
            }
        }
    }

    /** "given up at once when the cents so far are not below those of the best charge found". */
    private static void giveUpByCents() {
        for (int cents = 9; cents <= 11; cents++) {
            ChargePlans plans = new ChargePlans();
            plans.good(10, cents, 1);
            plans.good(10, 10, 1);
            plans.heat(10, 10);
            Check.equal("least cents", Math.min(cents, 10), plans.plan(0, Yard.STEPS));
            // 0; 0 0; 0 1 for 10 cents; 1; and only below 10 cents 1 0 and 1 1 come yet.
            Check.equal("steps at " + cents + " cents", cents < 10 ? 6 : 4, plans.planned(1));
            Yard.amounts("at " + cents + " cents", plans, 0, cents < 10 ? 1 : 0, cents < 10 ? 0 : 1);
        }
    }

    /** "given up at once when .. the kilos so far are above the high weight". */
    private static void giveUpByKilos() {
        for (int kilos = 9; kilos <= 11; kilos++) {
            ChargePlans plans = new ChargePlans();
            plans.good(kilos, 0, 1);
            plans.good(1, 0, 0);
            plans.heat(10, 10);
            Check.equal("plan of " + kilos + " kilos", kilos == 10 ? 0 : -1, plans.plan(0, Yard.STEPS));
            // 0; 0 0; 1; and only up to 10 kilos 1 0 comes yet.
            Check.equal("steps at " + kilos + " kilos", kilos > 10 ? 3 : 4, plans.planned(1));
        }
    }

    /** Bundles, shares and a low weight that can't be reached are looked at in whole charges alone. */
    private static void nothingElseIsGivenUp() {
        ChargePlans plans = new ChargePlans();
        plans.good(10, 1, 2);
        plans.good(10, 1, 2);
        plans.heat(50, 50);
        Check.equal("too few kilos", -1, plans.plan(0, Yard.STEPS));
        Check.equal("all tries for too few kilos", 3 + 9, plans.planned(1));
        plans.most(0, 0);
        plans.span(0, 0, 10000, 10000);
        plans.element(0, 1, 0, 1);
        plans.span(0, 1, 0, 0);
        Check.equal("too many bundles and wrong shares", -1, plans.plan(0, Yard.STEPS));
        Check.equal("all tries for these", 3 + 9, plans.planned(1));
    }

    private static void emptyStocks() {
        ChargePlans plans = new ChargePlans();
        plans.heat(1, 100000);
        for (int good = 0; good <= 5; good++) {
            Check.equal("plan of " + good + " goods without stock", -1, plans.plan(0, Yard.STEPS));
            Check.equal("one try for each good", good, plans.planned(1));
            Check.equal("not spent", 0, plans.planned(0));
            Check.equal("just as many steps as goods", -1, plans.plan(0, good));
            Check.equal("not spent by these", 0, plans.planned(0));
            if (good < 5) {
                plans.good(1, 1, 0);
            }
        }
        Check.equal("one step too few", -1, plans.plan(0, 4));
        Check.equal("spent", 1, plans.planned(0));
        Check.equal("all four", 4, plans.planned(1));
    }

    private static void aChargeWithoutBundlesIsNoPlan() {
        ChargePlans plans = new ChargePlans();
        plans.good(1, 0, 6);
        plans.heat(1, 100000);
        Check.equal("plan for nothing", 0, plans.plan(0, Yard.STEPS));
        Check.equal("one bundle", 1, plans.amount(0, 0));
    }

    private static void fiveGoodsAndFourHeats() {
        ChargePlans plans = new ChargePlans();
        for (int good = 0; good < 5; good++) {
            plans.good(1 + good, 1 + good, 6);
        }
        plans.heat(1, 1);
        plans.heat(5, 5);
        plans.heat(90, 90);
        plans.heat(91, 100000);
        Check.equal("the lightest", 1, plans.plan(0, Yard.STEPS));
        Check.equal("the heaviest bundle", 5, plans.plan(1, Yard.STEPS));
        Check.equal("all bundles", 90, plans.plan(2, Yard.STEPS));
        Check.equal("more than all bundles", -1, plans.plan(3, Yard.STEPS));
        Check.equal("all tries", 7 + 49 + 343 + 2401 + 16807, plans.planned(1));
        Check.equal("just as many steps", -1, plans.plan(3, 19607));
        Check.equal("not spent", 0, plans.planned(0));
        Check.equal("one step too few", -1, plans.plan(3, 19606));
        Check.equal("spent", 1, plans.planned(0));
        Yard.amounts("heat 0", plans, 0, 1, 0, 0, 0, 0);
        Yard.amounts("heat 1", plans, 1, 0, 0, 0, 0, 1);
        Yard.amounts("heat 2", plans, 2, 6, 6, 6, 6, 6);
        Check.turn("heat 3", () -> plans.amount(3, 0));
    }

    /** "of the same the first one by goods (of good 0 the fewest bundles, then of good 1, ..)". */
    private static void sameCentsKeepTheFirst() {
        ChargePlans plans = new ChargePlans();
        for (int good = 0; good < 5; good++) {
            plans.good(1, 1, 2);
        }
        plans.heat(3, 3);
        plans.heat(10, 10);
        Check.equal("three alike", 3, plans.plan(0, Yard.STEPS));
        Yard.amounts("the last goods first", plans, 0, 0, 0, 0, 1, 2);
        plans.limit(4, 0);
        Check.equal("three alike of four goods", 3, plans.plan(0, Yard.STEPS));
        Yard.amounts("the last goods with a limit", plans, 0, 0, 0, 1, 2, 0);
        Check.equal("eight are too few", -1, plans.plan(1, Yard.STEPS));
    }
}
