import java.util.function.Supplier;
import java.util.function.ToIntBiFunction;
import java.util.function.ToIntFunction;

/** Calls that are due to throw and to change nothing, each on an object of its own: one has only 512 calls. */
final class Refusals {
    private final Supplier<LineageTables> start;
    private final String before;

    Refusals(Supplier<LineageTables> start) {
        this.start = start;
        before = Reading.whole(start.get());
    }

    void index(String what, ToIntFunction<LineageTables> call) {
        refuse(what, "throws.IndexOutOfBoundsException", call);
    }

    void argument(String what, ToIntFunction<LineageTables> call) {
        refuse(what, "throws.IllegalArgumentException", call);
    }

    void state(String what, ToIntFunction<LineageTables> call) {
        refuse(what, "throws.IllegalStateException", call);
    }

    /** The call with a number that is not low .. high: the nearest on both sides, and the farthest. */
    void indexOutside(String what, int low, int high, ToIntBiFunction<LineageTables, Integer> call) {
        for (int number : outside(low, high)) {
            index(what + " with " + number, x -> call.applyAsInt(x, number));
        }
    }

    void argumentOutside(String what, int low, int high, ToIntBiFunction<LineageTables, Integer> call) {
        for (int number : outside(low, high)) {
            argument(what + " with " + number, x -> call.applyAsInt(x, number));
        }
    }

    private static int[] outside(int low, int high) {
        return new int[] {low - 1, high + 1, Integer.MIN_VALUE, Integer.MAX_VALUE};
    }

    private void refuse(String what, String due, ToIntFunction<LineageTables> call) {
        LineageTables x = start.get();
        Check.same(what, Check.outcome(() -> call.applyAsInt(x)), due);
        Check.same("after " + what + " the state", Reading.whole(x), before);
    }
}
