/** All promises: long runs of mixed calls, each answer held against the model's. */
public final class ModelTest {
    private static final int RUNS = 300;

    private final Numbers numbers;
    private final Twins twins;
    private final int timeBound;

    private ModelTest(int run) {
        numbers = new Numbers(run);
        twins = new Twins("run " + run);
        // Few times make many that are the same; many let chains grow long.
        timeBound = run % 3 == 0 ? 4 : run % 3 == 1 ? 20 : 1001;
    }

    public static void main(String[] args) {
        for (int run = 1; run <= RUNS; run++) {
            new ModelTest(run).run();
        }
        Check.end();
    }

    private void run() {
        for (int i = 0; i < 10; i++) {
            twins.node(below(timeBound), below(5) < 2);
        }
        for (int round = 0; round < 3; round++) {
            for (int i = 0; i < 45; i++) {
                build();
            }
            for (int i = 0; i < 10; i++) {
                read();
            }
            if (below(4) > 0) {
                sums();
                twins.simplify();
                sums();
            }
        }
        twins.readAll();
        while (twins.hasCallsLeft()) {
            read();
        }
    }

    private void build() {
        int left = place();
        switch (below(12)) {
            case 0 -> twins.node(below(30) == 0 ? wild() : below(timeBound), below(5) < 2);
            case 1 -> twins.part(left, right(left), number(14));
            case 2 -> twins.site(place(), below(20) == 0 ? wild() : below(4));
            case 3, 4, 5 -> twins.mutate(number(8), number(14), below(20) == 0 ? wild() : below(5) - 1);
            default -> twins.join(left, right(left), number(14), number(14));
        }
    }

    private void read() {
        switch (below(9)) {
            case 0 -> twins.count(number(5));
            case 1 -> twins.time(number(14));
            case 2 -> twins.edge(number(30), number(4));
            case 3 -> twins.parent(place(), number(14));
            case 4 -> twins.meet(place(), number(14), number(14));
            case 5 -> twins.cut(number(12));
            case 6 -> twins.letter(number(8), number(14));
            case 7 -> twins.became(number(14));
            default -> twins.spectrum(number(8));
        }
    }

    private void sums() {
        twins.count(2);
        twins.count(4);
        twins.trees();
        twins.area();
        twins.differing();
        for (int k = 1; k < 4; k++) {
            twins.spectrum(k);
        }
    }

    /** Mostly a number that is there; at times one just outside, or far away. */
    private int number(int bound) {
        return below(60) == 0 ? wild() : below(bound);
    }

    private int place() {
        // Often one of few, so that places of edges and sites come together.
        return below(2) == 0 ? below(6) * 10 : number(60);
    }

    private int right(int left) {
        return below(2) == 0 ? 60 : left + below(25);
    }

    private int wild() {
        return switch (below(6)) {
            case 0 -> Integer.MIN_VALUE;
            case 1 -> Integer.MAX_VALUE;
            case 2 -> -2;
            case 3 -> 60;
            case 4 -> 1001;
            default -> -1;
        };
    }

    private int below(int bound) {
        return numbers.below(bound);
    }
}
