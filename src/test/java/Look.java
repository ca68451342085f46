import java.util.ArrayList;
import java.util.List;
import java.util.function.LongSupplier;
import java.util.function.Supplier;

/**
 * What can be told of a state from outside, as lines of calls and answers. What changes the state is tried on an
 * object of its own each time, so no look disturbs another and none comes near the document's 512 calls.
 */
final class Look {
    private static final int GOODS = 5;
    private static final int HEATS = 4;
    private static final int ELEMENTS = 4;

    private final List<String> lines = new ArrayList<>();
    private ChargePlans plans;

    private Look() {
    }

    static List<String> at(Supplier<ChargePlans> recipe) {
        Look look = new Look();
        look.plans = recipe.get();
        look.answers();
        look.plans = recipe.get();
        look.nextNumbers();
        for (int heat = 0; heat < HEATS; heat++) {
            look.plans = recipe.get();
            look.taking(heat);
            look.plans = recipe.get();
            look.planning(heat);
            for (int element = 0; element < ELEMENTS; element++) {
                look.plans = recipe.get();
                look.spanEnds(heat, element);
            }
        }
        for (int good = 0; good < GOODS; good++) {
            look.plans = recipe.get();
            look.goodAlone(good);
        }
        return look.lines;
    }

    private void answers() {
        tell("planned 0", () -> plans.planned(0));
        tell("planned 1", () -> plans.planned(1));
        stocks("at first");
        for (int heat = 0; heat < HEATS; heat++) {
            int of = heat;
            amounts(heat);
            worsts(heat);
            tell("bound " + heat, () -> plans.bound(of));
            tell("clash " + heat, () -> plans.clash(of));
        }
    }

    private void nextNumbers() {
        tell("the next good", () -> plans.good(1, 1, 1));
        tell("the next heat", () -> plans.heat(1, 1));
    }

    private void taking(int heat) {
        tell("take " + heat, () -> plans.take(heat));
        stocks("after take " + heat);
    }

    private void planning(int heat) {
        tell("plan " + heat, () -> plans.plan(heat, Yard.STEPS));
        tell("steps of plan " + heat, () -> plans.planned(1));
        amounts(heat);
    }

    /** The steps tell the good's limit, as its stock is full; the cents and the worst ends tell the good itself. */
    private void goodAlone(int good) {
        leaveOutAllBut(good);
        for (int heat = 0; heat < HEATS; heat++) {
            int of = heat;
            tell("plan " + heat + " of good " + good, () -> plans.plan(of, Yard.STEPS));
            tell("steps of plan " + heat + " of good " + good, () -> plans.planned(1));
            widen(heat);
            tell("wide plan " + heat + " of good " + good, () -> plans.plan(of, Yard.STEPS));
            worsts(heat);
        }
    }

    /** Halves its way to the ends of a heat's span, by the clash of good 0 alone at one share after the other. */
    private void spanEnds(int heat, int element) {
        leaveOutAllBut(0);
        tell("limit 0", () -> done(() -> plans.limit(0, 6)));
        tell("most " + heat, () -> done(() -> plans.most(heat, 30)));
        for (int other = 0; other < ELEMENTS; other++) {
            int wide = other;
            if (other != element) {
                tell("span " + heat, () -> done(() -> plans.span(heat, wide, 0, 10000)));
            }
        }
        tellEnd(heat, element, 2 + 2 * element, true);
        tellEnd(heat, element, 3 + 2 * element, false);
    }

    private void tellEnd(int heat, int element, int rule, boolean brokenAbove) {
        tell("end of rule " + rule + " of heat " + heat, () -> {
            int from = 0;
            int to = 10001;
            while (from < to) {
                int share = (from + to) / 2;
                plans.element(0, element, Math.min(share, 10000), Math.min(share, 10000));
                boolean broken = (plans.clash(heat) >> rule & 1) == 1;
                if (broken == brokenAbove) {
                    to = share;
                } else {
                    from = share + 1;
                }
            }
            return from;
        });
    }

    private void leaveOutAllBut(int good) {
        for (int other = 0; other < GOODS; other++) {
            int out = other;
            if (other != good) {
                tell("leave out " + other, () -> done(() -> plans.limit(out, 0)));
            }
        }
        tell("fill up " + good, () -> plans.arrive(good, 6 - plans.stock(good)));
    }

    private void widen(int heat) {
        tell("most " + heat, () -> done(() -> plans.most(heat, 30)));
        for (int element = 0; element < ELEMENTS; element++) {
            int of = element;
            tell("span " + heat, () -> done(() -> plans.span(heat, of, 0, 10000)));
        }
    }

    private void stocks(String when) {
        for (int good = 0; good < GOODS; good++) {
            int of = good;
            tell("stock " + good + " " + when, () -> plans.stock(of));
        }
    }

    private void amounts(int heat) {
        for (int good = 0; good < GOODS; good++) {
            int of = good;
            tell("amount " + heat + " " + good, () -> plans.amount(heat, of));
        }
    }

    private void worsts(int heat) {
        for (int bits = 0; bits < 4 * ELEMENTS; bits++) {
            int of = bits;
            tell("worst " + heat + " " + bits, () -> plans.worst(heat, of >> 2, of >> 1 & 1, of & 1));
        }
    }

    private static long done(Runnable call) {
        call.run();
        return 0;
    }

    private void tell(String call, LongSupplier body) {
        String answer;
        try {
            answer = String.valueOf(body.getAsLong());
        } catch (RuntimeException e) {
            answer = e.getClass().getSimpleName();
        }
        lines.add(call + ": " + answer);
    }
}
