/** Promise 1: a new object has no goods and no heats. */
public final class NewObjectTest {
    public static void main(String[] args) {
        ChargePlans plans = new ChargePlans();
        Check.index("stock of no good", () -> plans.stock(0));
        Check.index("element of no good", () -> plans.element(0, 0, 0, 0));
        Check.index("limit of no good", () -> plans.limit(0, 0));
        Check.index("arrive at no good", () -> plans.arrive(0, 0));
        Check.index("span of no heat", () -> plans.span(0, 0, 0, 0));
        Check.index("most of no heat", () -> plans.most(0, 0));
        Check.index("plan of no heat", () -> plans.plan(0, 0));
        Check.index("amount of no heat", () -> plans.amount(0, 0));
        Check.index("worst of no heat", () -> plans.worst(0, 0, 0, 0));
        Check.index("bound of no heat", () -> plans.bound(0));
        Check.index("clash of no heat", () -> plans.clash(0));
        Check.index("take of no heat", () -> plans.take(0));
        Check.turn("planned ahead of any planning", () -> plans.planned(0));
        Check.equal("the first good", 0, plans.good(1, 1, 1));
        Check.equal("the first heat", 0, plans.heat(1, 1));
        objectsAreApart();
        Check.end();
    }

    private static void objectsAreApart() {
        ChargePlans used = Yard.make();
        used.plan(0, Yard.STEPS);
        ChargePlans fresh = new ChargePlans();
        Check.index("stock in a second object", () -> fresh.stock(0));
        Check.index("bound in a second object", () -> fresh.bound(0));
        Check.turn("planned in a second object", () -> fresh.planned(1));
    }
}
