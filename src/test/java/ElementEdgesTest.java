/** Promise 3 at its edges: "Index: no such good or element; range: they are not so." */
public final class ElementEdgesTest {
    private static final State FULL = State.full();

    public static void main(String[] args) {
        sharesFrom0To10000();
        outsideOfTheRange();
        noSuchIndex();
        indexAheadOfRange();
        Check.end();
    }

    private static void sharesFrom0To10000() {
        int[][] spans = {{0, 0}, {0, 1}, {0, 10000}, {1, 9999}, {9999, 10000}, {10000, 10000}};
        for (int good = 0; good < 5; good++) {
            for (int element = 0; element < 4; element++) {
                ChargePlans plans = Yard.full();
                aloneInHeat2(plans, good);
                for (int[] span : spans) {
                    plans.element(good, element, span[0], span[1]);
                    Check.equal("low share", span[0], plans.worst(2, element, 0, 0));
                    Check.equal("high share", span[1], plans.worst(2, element, 1, 0));
                }
            }
        }
    }

    private static void aloneInHeat2(ChargePlans plans, int good) {
        for (int other = 0; other < 5; other++) {
            plans.limit(other, other == good ? 6 : 0);
        }
        for (int element = 0; element < 4; element++) {
            plans.span(2, element, 0, 10000);
        }
        plans.arrive(good, 6 - plans.stock(good));
        plans.plan(2, Yard.STEPS);
    }

    private static void outsideOfTheRange() {
        FULL.spansOutside("element", 0, 10000, (plans, low, high) -> plans.element(1, 2, low, high));
    }

    private static void noSuchIndex() {
        State.noSuchGood("element", (plans, good) -> plans.element(good, 0, 1, 2));
        FULL.noSuchIndex("element of the first good", 4, (plans, element) -> plans.element(0, element, 1, 2));
        FULL.noSuchIndex("element of the last good", 4, (plans, element) -> plans.element(4, element, 1, 2));
    }

    private static void indexAheadOfRange() {
        FULL.index("no such good, shares -1", plans -> plans.element(5, 0, -1, -1));
        FULL.index("no such good, low above high", plans -> plans.element(-1, 0, 2, 1));
        FULL.index("no such element, shares 10001", plans -> plans.element(0, 4, 10001, 10001));
        FULL.index("no such element, low above high", plans -> plans.element(0, -1, 2, 1));
        FULL.index("no such good and element, low above high", plans -> plans.element(5, 4, 2, 1));
        State.empty().index("no goods, low above high", plans -> plans.element(0, 0, 2, 1));
    }
}
