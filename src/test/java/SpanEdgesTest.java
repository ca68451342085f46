/** Promise 7 at its edges: "Index: no such heat or element; range: they are not so (0 .. 10,000, ..)." */
public final class SpanEdgesTest {
    private static final State FULL = State.full();

    public static void main(String[] args) {
        spansFrom0To10000();
        outsideOfTheRange();
        noSuchIndex();
        indexAheadOfRange();
        Check.end();
    }

    private static void spansFrom0To10000() {
        int[][] spans = {{0, 0}, {0, 1}, {0, 10000}, {1, 1}, {1, 9999}, {9999, 10000}, {10000, 10000}};
        ChargePlans plans = new ChargePlans();
        plans.good(1, 1, 1);
        for (int heat = 0; heat < 4; heat++) {
            plans.heat(1, 1);
        }
        for (int element = 0; element < 4; element++) {
            for (int[] span : spans) {
                plans.span(element, element, span[0], span[1]);
                for (int share : new int[] {0, 1, 2, 9998, 9999, 10000}) {
                    plans.element(0, element, share, share);
                    boolean inside = span[0] <= share && share <= span[1];
                    Check.equal("share " + share + " in " + span[0] + " to " + span[1], inside ? 1 : -1,
                        plans.plan(element, 2));
                }
            }
            plans.element(0, element, 0, 0);
            plans.span(element, element, 0, 10000);
        }
    }

    private static void outsideOfTheRange() {
        FULL.spansOutside("span", 0, 10000, (plans, low, high) -> plans.span(0, 3, low, high));
    }

    private static void noSuchIndex() {
        State.noSuchHeat("span", (plans, heat) -> plans.span(heat, 0, 1, 2));
        FULL.noSuchIndex("span of the first heat", 4, (plans, element) -> plans.span(0, element, 1, 2));
        FULL.noSuchIndex("span of the last heat", 4, (plans, element) -> plans.span(3, element, 1, 2));
    }

    private static void indexAheadOfRange() {
        FULL.index("no such heat, shares -1", plans -> plans.span(4, 0, -1, -1));
        FULL.index("no such heat, low above high", plans -> plans.span(-1, 0, 2, 1));
        FULL.index("no such element, shares 10001", plans -> plans.span(0, 4, 10001, 10001));
        FULL.index("no such element, low above high", plans -> plans.span(0, -1, 2, 1));
        FULL.index("no such heat and element, low above high", plans -> plans.span(4, 4, 2, 1));
        State.empty().index("no heats, low above high", plans -> plans.span(0, 0, 2, 1));
    }
}
