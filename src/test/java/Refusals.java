import java.util.function.Supplier;
import java.util.function.ToIntFunction;

/** Calls that are due to throw and to change nothing, each on an object of its own: one has only 512 calls. */
final class Refusals {
    private final Supplier<LineageTables> start;

    Refusals(Supplier<LineageTables> start) {
        this.start = start;
    }

    void index(String what, ToIntFunction<LineageTables> call) {
        refuse(what, "throws.IndexOutOfBoundsException", call);
    }

    void argument(String what, ToIntFunction<LineageTables> call) {
        refuse(what, "throws.IllegalArgumentException", call);
    }

    void state(String what, ToIntFunction<LineageTables> call) {
        refuse(what, "throws.IllegalStateException", call);
    }

    private void refuse(String what, String due, ToIntFunction<LineageTables> call) {
        LineageTables x = start.get();
        String before = Reading.of(x);
        Check.same(what, Check.outcome(() -> call.applyAsInt(x)), due);
        Check.same("after " + what + " the state", Reading.of(x), before);
    }
}
