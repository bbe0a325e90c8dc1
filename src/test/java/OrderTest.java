import java.util.List;

/** "Exceptions are tested in the order in which a method lists them, and a call that throws changes nothing." */
public final class OrderTest {
    private OrderTest() {
    }

    public static void main(String[] args) {
        Check.sentence("Exceptions are tested in the order in which a method lists them");
        node();
        join();
        joinWithoutNodes();
        site();
        mutate();
        Check.sentence("a call that throws changes nothing");
        manyRefusedCalls();
        Check.end();
    }

    private static void node() {
        Refusals full = new Refusals(Make::fullOfMutations);
        full.argumentOutside("a wrong time when there are 14", 0, 1000, (t, time) -> t.node(time, true));
        full.state("a right time when there are 14", t -> t.node(1000, true));
    }

    /** Nodes of times 0, 5, 5, 9; 1 is the parent of 0, and 3 of 1, at all places. */
    private static LineageTables joined() {
        LineageTables x = Make.nodes(2, 0, 5, 5, 9);
        x.join(0, 60, 1, 0);
        x.join(0, 60, 3, 1);
        return x;
    }

    private static void join() {
        Refusals of = new Refusals(OrderTest::joined);
        int[][] wrongRuns = {{-1, 60}, {0, 61}, {30, 30}, {31, 30}};
        for (int[] run : wrongRuns) {
            String places = run[0] + " .. " + run[1] + " ";
            of.index(places + "and a time that is the same", t -> t.join(run[0], run[1], 1, 2));
            of.index(places + "and a time that is less", t -> t.join(run[0], run[1], 0, 2));
            of.index(places + "and another parent", t -> t.join(run[0], run[1], 2, 0));
            of.index(places + "and both", t -> t.join(run[0], run[1], 2, 1));
            of.index(places + "and p its own child", t -> t.join(run[0], run[1], 0, 0));
        }
        of.argument("a time that is the same and another parent", t -> t.join(0, 60, 2, 1));
        of.argument("a time that is less and another parent", t -> t.join(59, 60, 0, 1));
        of.argument("a node as its own parent, and another parent", t -> t.join(0, 1, 0, 0));
        of.state("another parent alone", t -> t.join(0, 60, 2, 0));
        of.argument("a time that is the same alone", t -> t.join(0, 60, 1, 2));
    }

    private static void joinWithoutNodes() {
        Refusals of = new Refusals(OrderTest::joined);
        of.indexOutside("p, and wrong places", 0, 3, (t, p) -> t.join(60, 0, p, 0));
        of.indexOutside("c, and wrong places", 0, 3, (t, c) -> t.join(60, 0, 3, c));
        of.indexOutside("p, and another parent", 0, 3, (t, p) -> t.join(0, 60, p, 1));
        of.indexOutside("c, below the least time", 0, 3, (t, c) -> t.join(0, 60, 0, c));
        of.index("p that comes next", t -> t.join(0, 60, 4, 3));
        of.index("c that comes next", t -> t.join(0, 60, 3, 4));
    }

    private static void site() {
        Refusals full = new Refusals(Make::fullOfMutations);
        full.indexOutside("place, when there are 8", 0, 59, (t, place) -> t.site(place, 0));
        full.indexOutside("place, a wrong letter, when there are 8", 0, 59, (t, place) -> t.site(place, 4));
        full.argumentOutside("letter, when there are 8", 0, 3, (t, letter) -> t.site(59, letter));
        full.argumentOutside("letter, at a place that has a site", 0, 3, (t, letter) -> t.site(56, letter));
        full.argument("a place that has a site, when there are 8", t -> t.site(56, 0));
        full.state("when there are 8", t -> t.site(59, 0));
        Refusals of = new Refusals(OrderTest::joined);
        of.indexOutside("place, a wrong letter", 0, 59, (t, place) -> t.site(place, -1));
    }

    private static void mutate() {
        Refusals full = new Refusals(Make::fullOfMutations);
        full.indexOutside("site, a wrong letter", 0, 7, (t, site) -> t.mutate(site, 0, 4));
        full.indexOutside("node, a wrong letter", 0, 13, (t, n) -> t.mutate(0, n, -2));
        full.indexOutside("site and node, a wrong letter", 0, 13, (t, n) -> t.mutate(n, n, 4));
        full.argumentOutside("letter alone", -1, 3, (t, letter) -> t.mutate(7, 13, letter));
    }

    private static LineageTables fullAndSmaller() {
        LineageTables x = Make.fullOfMutations();
        x.join(0, 60, 13, 0);
        x.simplify();
        return x;
    }

    private static void manyRefusedCalls() {
        LineageTables x = fullAndSmaller();
        List<Check.Call> calls = List.of(() -> x.node(0, false), () -> x.node(-1, false),
                () -> x.join(0, 60, 12, 0), () -> x.join(0, 60, 0, 13), () -> x.join(0, 61, 13, 1),
                () -> x.part(-1, 60, 0), () -> x.part(0, 60, 14),
                () -> x.site(1, 0), () -> x.site(0, 0), () -> x.site(60, 0),
                () -> x.mutate(0, 0, 4), () -> x.mutate(8, 0, 1), () -> x.mutate(0, 14, -1));
        for (Check.Call call : calls) {
            Check.same("a refused call throws", Check.outcome(call).startsWith("throws."), true);
        }
        Check.same("the state after all of them", Reading.whole(x), Reading.whole(fullAndSmaller()));
    }
}
