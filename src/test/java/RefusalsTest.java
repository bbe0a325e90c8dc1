/** What calls throw by the promises 2 to 6, 8 to 11, 13 and 14, in which order, and that they change nothing then. */
public final class RefusalsTest {
    private RefusalsTest() {
    }

    public static void main(String[] args) {
        promise1NothingToRead();
        promise2Node();
        promise3Join();
        promise3JoinOrder();
        promise4Part();
        promise5Site();
        promise5NinthSite();
        promise6Mutate();
        promise8Time();
        promise9Edge();
        promise10Parent();
        promise11Meet();
        promise13Cut();
        promise14Letter();
        Check.end();
    }

    private static void promise1NothingToRead() {
        Refusals of = new Refusals(LineageTables::new);
        of.index("time(0) of a new object", x -> x.time(0));
        of.index("edge(0, 0) of a new object", x -> x.edge(0, 0));
        of.index("letter(0, 0) of a new object", x -> x.letter(0, 0));
        of.index("parent(0, 0) of a new object", x -> x.parent(0, 0));
    }

    private static void promise2Node() {
        Refusals of = new Refusals(() -> Make.nodes(1, 0, 5));
        of.argument("node(-1, true)", x -> x.node(-1, true));
        of.argument("node(1001, true)", x -> x.node(1001, true));
        of.argument("node(MAX_VALUE, false)", x -> x.node(Integer.MAX_VALUE, false));
        Refusals full = new Refusals(() -> Make.nodes(2, 0, 0, 1, 1, 1, 1, 1, 1, 1, 1, 1, 1, 1, 1));
        full.state("a fifteenth node", x -> x.node(5, false));
        full.argument("a fifteenth node of a wrong time", x -> x.node(1001, false));
    }

    /** Nodes of times 0, 5, 6, 6; 1 is the parent of 0 at the places 10 .. 19, and 3 of 1 everywhere. */
    private static LineageTables joined() {
        LineageTables x = Make.nodes(2, 0, 5, 6, 6);
        x.join(10, 20, 1, 0);
        x.join(0, 60, 3, 1);
        return x;
    }

    private static void promise3Join() {
        Refusals of = new Refusals(RefusalsTest::joined);
        of.index("join(-1, 5, 1, 0)", x -> x.join(-1, 5, 1, 0));
        of.index("join(5, 61, 1, 0)", x -> x.join(5, 61, 1, 0));
        of.index("join(5, 5, 1, 0)", x -> x.join(5, 5, 1, 0));
        of.index("join(6, 5, 1, 0)", x -> x.join(6, 5, 1, 0));
        of.index("join(60, 61, 1, 0)", x -> x.join(60, 61, 1, 0));
        of.index("join(MIN_VALUE, MAX_VALUE, 1, 0)", x -> x.join(Integer.MIN_VALUE, Integer.MAX_VALUE, 1, 0));
        of.index("join with parent 4", x -> x.join(0, 60, 4, 0));
        of.index("join with child 4", x -> x.join(0, 60, 1, 4));
        of.index("join with parent -1", x -> x.join(0, 60, -1, 0));
        of.index("join with child -1", x -> x.join(0, 60, 1, -1));
        of.argument("join of the same times", x -> x.join(0, 60, 3, 2));
        of.argument("join of a node with itself", x -> x.join(0, 60, 0, 0));
        of.argument("join downwards", x -> x.join(0, 60, 0, 2));
        of.state("join over another at the end", x -> x.join(0, 11, 2, 0));
        of.state("join over another at the start", x -> x.join(19, 60, 2, 0));
        of.state("join over another in the midst", x -> x.join(0, 60, 2, 0));
    }

    private static void promise3JoinOrder() {
        Refusals of = new Refusals(RefusalsTest::joined);
        of.index("join downwards at wrong places", x -> x.join(0, 61, 0, 1));
        of.index("join over another at wrong places", x -> x.join(15, 61, 2, 0));
        of.argument("join downwards over another", x -> x.join(0, 60, 0, 1));
    }

    private static void promise4Part() {
        Refusals of = new Refusals(RefusalsTest::joined);
        of.index("part(-1, 5, 1)", x -> x.part(-1, 5, 1));
        of.index("part(5, 61, 1)", x -> x.part(5, 61, 1));
        of.index("part(5, 5, 1)", x -> x.part(5, 5, 1));
        of.index("part(9, 5, 1)", x -> x.part(9, 5, 1));
        of.index("part(0, 60, 4)", x -> x.part(0, 60, 4));
        of.index("part(0, 60, -1)", x -> x.part(0, 60, -1));
    }

    private static LineageTables withSites(int sites) {
        LineageTables x = Make.nodes(1, 0, 5);
        x.join(0, 60, 1, 0);
        for (int i = 0; i < sites; i++) {
            x.site(59 - i, i % 4);
        }
        return x;
    }

    private static void promise5Site() {
        Refusals of = new Refusals(() -> withSites(2));
        of.index("site(60, 0)", x -> x.site(60, 0));
        of.index("site(-1, 0)", x -> x.site(-1, 0));
        of.index("site(60, 4)", x -> x.site(60, 4));
        of.argument("site(1, 4)", x -> x.site(1, 4));
        of.argument("site(1, -1)", x -> x.site(1, -1));
        of.argument("site(59, 0) again", x -> x.site(59, 0));
        of.argument("site(58, 3) of another letter", x -> x.site(58, 3));
    }

    private static void promise5NinthSite() {
        Refusals of = new Refusals(() -> withSites(8));
        of.state("a ninth site", x -> x.site(8, 1));
        of.index("a ninth site of a wrong place", x -> x.site(60, 1));
        of.argument("a ninth site of a wrong letter", x -> x.site(8, 4));
        of.argument("a ninth site at a place that has one", x -> x.site(52, 1));
    }

    private static LineageTables mutated() {
        LineageTables x = withSites(2);
        x.mutate(0, 1, 3);
        x.mutate(1, 0, 2);
        return x;
    }

    private static void promise6Mutate() {
        Refusals of = new Refusals(RefusalsTest::mutated);
        of.index("mutate(2, 0, 1)", x -> x.mutate(2, 0, 1));
        of.index("mutate(-1, 0, 1)", x -> x.mutate(-1, 0, 1));
        of.index("mutate(0, 2, 1)", x -> x.mutate(0, 2, 1));
        of.index("mutate(0, -1, 1)", x -> x.mutate(0, -1, 1));
        of.index("mutate(0, 2, 4)", x -> x.mutate(0, 2, 4));
        of.argument("mutate(0, 1, 4)", x -> x.mutate(0, 1, 4));
        of.argument("mutate(0, 1, -2)", x -> x.mutate(0, 1, -2));
    }

    private static void promise8Time() {
        Refusals of = new Refusals(RefusalsTest::joined);
        of.index("time(4)", x -> x.time(4));
        of.index("time(-1)", x -> x.time(-1));
    }

    private static void promise9Edge() {
        Refusals of = new Refusals(Make::threeSamples);
        of.index("edge(6, 0)", x -> x.edge(6, 0));
        of.index("edge(-1, 0)", x -> x.edge(-1, 0));
        of.index("edge(0, 4)", x -> x.edge(0, 4));
        of.index("edge(0, -1)", x -> x.edge(0, -1));
    }

    private static void promise10Parent() {
        Refusals of = new Refusals(Make::threeSamples);
        of.index("parent(60, 0)", x -> x.parent(60, 0));
        of.index("parent(-1, 0)", x -> x.parent(-1, 0));
        of.index("parent(0, 6)", x -> x.parent(0, 6));
        of.index("parent(0, -1)", x -> x.parent(0, -1));
    }

    private static void promise11Meet() {
        Refusals of = new Refusals(Make::threeSamples);
        of.index("meet(60, 0, 1)", x -> x.meet(60, 0, 1));
        of.index("meet(-1, 0, 1)", x -> x.meet(-1, 0, 1));
        of.index("meet(0, 6, 1)", x -> x.meet(0, 6, 1));
        of.index("meet(0, 0, 6)", x -> x.meet(0, 0, 6));
        of.index("meet(0, -1, 1)", x -> x.meet(0, -1, 1));
        of.index("meet(0, 1, -1)", x -> x.meet(0, 1, -1));
    }

    private static void promise13Cut() {
        Refusals of = new Refusals(Make::threeSamples);
        of.index("cut(5)", x -> x.cut(5));
        of.index("cut(-1)", x -> x.cut(-1));
        of.index("cut(60)", x -> x.cut(60));
    }

    private static void promise14Letter() {
        Refusals of = new Refusals(RefusalsTest::mutated);
        of.index("letter(2, 0)", x -> x.letter(2, 0));
        of.index("letter(-1, 0)", x -> x.letter(-1, 0));
        of.index("letter(0, 2)", x -> x.letter(0, 2));
        of.index("letter(0, -1)", x -> x.letter(0, -1));
    }
}
