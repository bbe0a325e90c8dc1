import java.util.ArrayList;
import java.util.List;
import java.util.stream.Collectors;
import java.util.stream.IntStream;

/** "a making smaller to what the samples need": what follows of that for any object, whatever its edges are. */
public final class KeepsTest {
    private static final int RUNS = 400;
    private static final int NODES = 12;
    private static final int NONE = LineageTables.NONE;

    private KeepsTest() {
    }

    public static void main(String[] args) {
        Check.sentence("a making smaller to what the samples need");
        for (int run = 1; run <= RUNS; run++) {
            keepsWhatSamplesHave(run);
            keepsWhereSamplesMeet(run);
            keepsTimes(run);
            changesNothingTheSecondTime(run);
        }
        Check.end();
    }

    private static boolean isSample(int run, int n) {
        return (n + run) % 3 == 0;
    }

    private static List<Integer> samples(int run) {
        return IntStream.range(0, NODES).filter(n -> isSample(run, n)).boxed().collect(Collectors.toList());
    }

    /** The same object each time, because one has too few calls for all that is asked of it here. */
    private static LineageTables made(int run) {
        Numbers numbers = new Numbers(run);
        LineageTables x = new LineageTables();
        for (int n = 0; n < NODES; n++) {
            x.node(numbers.below(isSample(run, n) ? 6 : 20), isSample(run, n));
        }
        for (int i = 0; i < 60; i++) {
            int left = numbers.below(60);
            int right = left + 1 + numbers.below(60 - left);
            int p = numbers.below(NODES);
            int c = numbers.below(NODES);
            Check.outcome(() -> x.join(left, right, p, c));
        }
        for (int site = 0; site < 8; site++) {
            x.site(site * 7, numbers.below(4));
            for (int i = 0; i < 5; i++) {
                x.mutate(site, numbers.below(NODES), numbers.below(4));
            }
        }
        return x;
    }

    private static String had(LineageTables x, List<Integer> samples) {
        StringBuilder text = new StringBuilder().append(x.differing());
        for (int k = 1; k <= NODES; k++) {
            text.append(' ').append(x.spectrum(k));
        }
        for (int site = 0; site < 8; site++) {
            text.append(' ');
            for (int n : samples) {
                text.append(x.letter(site, n));
            }
        }
        return text.toString();
    }

    private static List<Integer> became(LineageTables x, List<Integer> nodes) {
        return nodes.stream().map(n -> n == NONE ? NONE : x.became(n)).collect(Collectors.toList());
    }

    private static void keepsWhatSamplesHave(int run) {
        LineageTables x = made(run);
        String before = had(x, samples(run));
        x.simplify();
        Check.same("run " + run + ": what samples have", had(x, became(x, samples(run))), before);
    }

    private static List<Integer> meetings(LineageTables x, int place, List<Integer> samples) {
        List<Integer> met = new ArrayList<>();
        for (int a : samples) {
            for (int b : samples) {
                met.add(x.meet(place, a, b));
            }
        }
        return met;
    }

    /** Where two samples meet is one of them or a fork, so it stays. */
    private static void keepsWhereSamplesMeet(int run) {
        int[] places = {0, 7, run % 60, 31, 59};
        List<List<Integer>> before = new ArrayList<>();
        LineageTables x = made(run);
        for (int place : places) {
            before.add(meetings(x, place, samples(run)));
        }
        x.simplify();
        for (int i = 0; i < places.length; i++) {
            Check.same("run " + run + ": where samples meet at " + places[i],
                    meetings(x, places[i], became(x, samples(run))), became(x, before.get(i)));
        }
    }

    private static void keepsTimes(int run) {
        LineageTables x = made(run);
        int[] times = IntStream.range(0, NODES).map(x::time).toArray();
        Check.same("run " + run + ": nodes that stay", x.simplify(), x.count(0));
        Check.same("run " + run + ": samples", x.count(1), samples(run).size());
        for (int n = 0; n < NODES; n++) {
            int now = x.became(n);
            if (now != NONE) {
                Check.same("run " + run + ": the time of " + n, x.time(now), times[n]);
            } else {
                Check.same("run " + run + ": a sample went", isSample(run, n), false);
            }
        }
    }

    private static void changesNothingTheSecondTime(int run) {
        LineageTables once = made(run);
        once.simplify();
        LineageTables twice = made(run);
        twice.simplify();
        twice.simplify();
        Check.same("run " + run + ": made smaller twice", Reading.of(twice), Reading.of(once));
    }
}
