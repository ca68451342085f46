/** Promise 8 at its edges: "Index: no such heat; range: it." */
public final class MostEdgesTest {
    private static final State FULL = State.full();

    public static void main(String[] args) {
        mostFrom0To30();
        outsideOfTheRange();
        noSuchHeat();
        indexAheadOfRange();
        Check.end();
    }

    /** Bundles of 1 kilo: a heat of so many kilos needs just so many bundles. */
    private static void mostFrom0To30() {
        for (int kilos : new int[] {1, 2, 29, 30}) {
            ChargePlans plans = new ChargePlans();
            for (int good = 0; good < 5; good++) {
                plans.good(1, 1, 6);
            }
            plans.heat(kilos, kilos);
            for (int most : new int[] {0, kilos - 1, kilos, 30}) {
                plans.most(0, most);
                Check.equal(kilos + " bundles by most " + most, most < kilos ? -1 : kilos, plans.plan(0, Yard.STEPS));
                Check.equal("clash by most " + most, most < kilos ? 1 | 1 << 10 : 0, plans.clash(0));
            }
        }
    }

    private static void outsideOfTheRange() {
        for (int heat = 0; heat < 4; heat++) {
            int of = heat;
            FULL.outside("most of heat " + heat, 0, 30, (plans, most) -> plans.most(of, most));
        }
    }

    private static void noSuchHeat() {
        State.noSuchHeat("most", (plans, heat) -> plans.most(heat, 0));
    }

    private static void indexAheadOfRange() {
        FULL.index("no such heat, most 31", plans -> plans.most(4, 31));
        FULL.index("no such heat, most -1", plans -> plans.most(-1, -1));
        FULL.index("no such heat, least int", plans -> plans.most(Ints.MOST, Ints.LEAST));
        State.empty().index("no heats, most 31", plans -> plans.most(0, 31));
    }
}
