import java.util.List;
import java.util.function.Consumer;
import java.util.function.ObjIntConsumer;
import java.util.function.Supplier;

/** A state that calls are refused in: what refused a call must look in all like what was never called so. */
final class State {
    /** A call that takes a low and a high end. */
    interface SpanCall {
        void on(ChargePlans plans, int low, int high);
    }

    private final Supplier<ChargePlans> recipe;
    private final List<String> untouched;

    State(Supplier<ChargePlans> recipe) {
        this.recipe = recipe;
        this.untouched = Look.at(recipe);
    }

    static State empty() {
        return new State(ChargePlans::new);
    }

    static State full() {
        return new State(Yard::full);
    }

    static State yard() {
        return new State(Yard::make);
    }

    /** The call is refused for each number that is no good's, where there are five, three and none. */
    static void noSuchGood(String call, ObjIntConsumer<ChargePlans> body) {
        full().noSuchIndex(call + " of five goods", 5, body);
        yard().noSuchIndex(call + " of three goods", 3, body);
        empty().noSuchIndex(call + " of no goods", 0, body);
    }

    /** The call is refused for each number that is no heat's, where there are four, one and none. */
    static void noSuchHeat(String call, ObjIntConsumer<ChargePlans> body) {
        full().noSuchIndex(call + " of four heats", 4, body);
        yard().noSuchIndex(call + " of one heat", 1, body);
        empty().noSuchIndex(call + " of no heats", 0, body);
    }

    void noSuchIndex(String call, int count, ObjIntConsumer<ChargePlans> body) {
        for (int index : Ints.noIndex(count)) {
            index(call + ", " + index, plans -> body.accept(plans, index));
        }
    }

    void outside(String call, int least, int most, ObjIntConsumer<ChargePlans> body) {
        for (int value : Ints.outside(least, most)) {
            range(call + ", " + value, plans -> body.accept(plans, value));
        }
    }

    /** A low and a high end are refused when one lies outside, or the low one above the high one. */
    void spansOutside(String call, int least, int most, SpanCall body) {
        outside(call + ", low end", least, most, (plans, low) -> body.on(plans, low, most));
        outside(call + ", high end", least, most, (plans, high) -> body.on(plans, least, high));
        outside(call + ", both ends", least, most, (plans, both) -> body.on(plans, both, both));
        int[][] spans = {{least - 1, most + 1}, {least + 1, least}, {most, most - 1}, {most, least},
            {most + 1, least - 1}, {Ints.LEAST, Ints.MOST}, {Ints.MOST, Ints.LEAST}, {most, Ints.LEAST},
            {Ints.MOST, least}};
        for (int[] span : spans) {
            range(call + ", " + span[0] + " to " + span[1], plans -> body.on(plans, span[0], span[1]));
        }
    }

    ChargePlans make() {
        return recipe.get();
    }

    void index(String call, Consumer<ChargePlans> body) {
        refuses(call, IndexOutOfBoundsException.class, body);
    }

    void turn(String call, Consumer<ChargePlans> body) {
        refuses(call, IllegalStateException.class, body);
    }

    void range(String call, Consumer<ChargePlans> body) {
        refuses(call, IllegalArgumentException.class, body);
    }

    void meaning(String call, Consumer<ChargePlans> body) {
        refuses(call, UnsupportedOperationException.class, body);
    }

    private void refuses(String call, Class<?> due, Consumer<ChargePlans> body) {
        List<String> after = Look.at(() -> {
            ChargePlans plans = recipe.get();
            Check.refuses(call, due, () -> body.accept(plans));
            return plans;
        });
        Check.same("after the refused " + call, untouched, after);
    }
}
