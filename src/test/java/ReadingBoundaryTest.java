/** Promises 7 to 14: a test for each sentence that names a boundary. */
public final class ReadingBoundaryTest {
    private static final int NONE = LineageTables.NONE;

    private ReadingBoundaryTest() {
    }

    public static void main(String[] args) {
        promise7Empty();
        promise7Full();
        promise7Others();
        promise8Time();
        promise8Nodes();
        promise9InOrder();
        promise9ManyEdges();
        promise9NoSuchEdge();
        promise9What();
        promise10Parent();
        promise10None();
        promise10Numbers();
        promise11Nearest();
        promise11None();
        promise11Numbers();
        promise12Fewest();
        promise12Most();
        promise12SameParents();
        promise13FirstPlaces();
        promise13BehindTheLast();
        promise13Others();
        promise14Letter();
        promise14Numbers();
        Check.end();
    }

    private static String counts(LineageTables x) {
        StringBuilder text = new StringBuilder();
        for (int what = 0; what < 5; what++) {
            text.append(what == 0 ? "" : " ").append(x.count(what));
        }
        return text.toString();
    }

    private static void promise7Empty() {
        Check.sentence("7: How many there are of what: 0 nodes, 1 samples, 2 edges, 3 sites, 4 mutations");
        LineageTables x = new LineageTables();
        Check.same("nothing", counts(x), "0 0 0 0 0");
        x.site(0, 0);
        Check.same("a site", counts(x), "0 0 0 1 0");
        x.node(0, false);
        Check.same("a node", counts(x), "1 0 0 1 0");
        x.mutate(0, 0, 0);
        Check.same("a mutation", counts(x), "1 0 0 1 1");
        x.node(1, true);
        Check.same("a sample", counts(x), "2 1 0 1 1");
        x.join(59, 60, 1, 0);
        Check.same("an edge", counts(x), "2 1 1 1 1");
        x.part(59, 60, 0);
        x.mutate(0, 0, -1);
        Check.same("without both", counts(x), "2 1 0 1 0");
        x.simplify();
        Check.same("made smaller", counts(x), "1 1 0 1 0");
    }

    private static void promise7Full() {
        Check.sentence("7: How many there are of what: 0 nodes, 1 samples, 2 edges, 3 sites, 4 mutations");
        LineageTables x = Make.fullOfMutations();
        for (int n = 0; n < 13; n++) {
            x.join(0, 60, n + 1, n);
            x.part(1, 59, n);
        }
        Check.same("as many as can be of most", counts(x), "14 14 26 8 112");
        x.simplify();
        Check.same("all that are samples stay", counts(x), "14 14 26 8 112");
    }

    private static void promise7Others() {
        Check.sentence("7: NONE for others.");
        LineageTables x = Make.threeSamples();
        for (int what = -3; what < 10; what++) {
            boolean isOther = what < 0 || what > 4;
            Check.same("count(" + what + ") is NONE", x.count(what) == NONE, isOther);
        }
        Check.same("count of the least number", x.count(Integer.MIN_VALUE), NONE);
        Check.same("count of the greatest number", x.count(Integer.MAX_VALUE), NONE);
        Check.same("count(5) of nothing", new LineageTables().count(5), NONE);
    }

    private static void promise8Time() {
        Check.sentence("8: The time of a node.");
        LineageTables x = new LineageTables();
        for (int n = 0; n < 14; n++) {
            x.node(n == 0 ? 1000 : n - 1, true);
        }
        Check.same("the first, of the greatest time", x.time(0), 1000);
        Check.same("one of the least time", x.time(1), 0);
        Check.same("the last", x.time(13), 12);
    }

    private static void promise8Nodes() {
        Check.sentence("8: IndexOutOfBounds: a number given for a node is none that there is.");
        new Refusals(LineageTables::new).index("the first of none", t -> t.time(0));
        new Refusals(() -> Make.nodes(1, 5)).indexOutside("one of one", 0, 0, (t, n) -> t.time(n));
        new Refusals(() -> Make.longestChain(true)).indexOutside("one of 14", 0, 13, (t, n) -> t.time(n));
    }

    private static void promise9InOrder() {
        Check.sentence("9: Of edge i in order: 0 left, 1 right, 2 the parent, 3 the child.");
        LineageTables x = Make.nodes(0, 9, 7, 0);
        x.join(0, 60, 0, 1);
        Check.same("an edge for all places", Reading.edges(x), "0-60:0>1");
        x.join(59, 60, 1, 2);
        x.join(0, 1, 1, 2);
        Check.same("the first edge", edge(x, 0), "0 1 1 2");
        Check.same("the second edge", edge(x, 1), "59 60 1 2");
        Check.same("the last edge", edge(x, 2), "0 60 0 1");
    }

    private static String edge(LineageTables x, int i) {
        return x.edge(i, 0) + " " + x.edge(i, 1) + " " + x.edge(i, 2) + " " + x.edge(i, 3);
    }

    /** Nodes 0 .. 6 have 7 as their parent at even places and 8 at odd ones: 60 edges each, by 436 calls. */
    private static LineageTables manyEdges() {
        LineageTables x = Make.nodes(7, 0, 0, 0, 0, 0, 0, 0, 5, 5);
        for (int c = 0; c < 7; c++) {
            x.join(0, 60, 7, c);
            for (int place = 1; place < 60; place += 2) {
                x.part(place, place + 1, c);
                x.join(place, place + 1, 8, c);
            }
        }
        return x;
    }

    private static void promise9ManyEdges() {
        Check.sentence("9: Of edge i in order: 0 left, 1 right, 2 the parent, 3 the child.");
        LineageTables x = manyEdges();
        Check.same("edges", x.count(2), 420);
        Check.same("the first", edge(x, 0), "0 1 7 0");
        Check.same("the second", edge(x, 1), "2 3 7 0");
        Check.same("the last of the first child", edge(x, 29), "58 59 7 0");
        Check.same("the first of the second child", edge(x, 30), "0 1 7 1");
        Check.same("the last of the first parent", edge(x, 209), "58 59 7 6");
        Check.same("the first of the second parent", edge(x, 210), "1 2 8 0");
        Check.same("the last", edge(x, 419), "59 60 8 6");
        Check.same("the one behind", Check.outcome(() -> x.edge(420, 0)), "throws.IndexOutOfBoundsException");
    }

    private static void promise9NoSuchEdge() {
        Check.sentence("9: IndexOutOfBounds: there is no such edge");
        new Refusals(LineageTables::new).index("of nothing", t -> t.edge(0, 0));
        new Refusals(() -> Make.nodes(1, 0, 5)).indexOutside("of nodes without parents", 0, -1, (t, i) -> t.edge(i, 3));
        Refusals of = new Refusals(Make::threeSamples);
        for (int what = 0; what < 4; what++) {
            int part = what;
            of.indexOutside("edge of six, what is " + what, 0, 5, (t, i) -> t.edge(i, part));
        }
        new Refusals(() -> {
            LineageTables x = Make.threeSamples();
            x.part(10, 20, 4);
            return x;
        }).index("the last edge that was", t -> t.edge(5, 0));
    }

    private static void promise9What() {
        Check.sentence("9: or what is not 0 .. 3.");
        Refusals of = new Refusals(Make::threeSamples);
        of.indexOutside("the first edge", 0, 3, (t, what) -> t.edge(0, what));
        of.indexOutside("the last edge", 0, 3, (t, what) -> t.edge(5, what));
        of.indexOutside("no edge", 0, 3, (t, what) -> t.edge(6, what));
    }

    private static void promise10Parent() {
        Check.sentence("10: The parent of a node at a place");
        LineageTables x = Make.longestChain(false);
        Check.same("at the first place", x.parent(0, 0), 1);
        Check.same("at the last place", x.parent(59, 0), 1);
        Check.same("the last node as parent", x.parent(59, 12), 13);
        x.part(1, 59, 0);
        Check.same("at the first place still", x.parent(0, 0), 1);
        Check.same("at the last place still", x.parent(59, 0), 1);
    }

    private static void promise10None() {
        Check.sentence("10: NONE if none.");
        LineageTables x = Make.longestChain(false);
        Check.same("the uppermost", x.parent(0, 13), NONE);
        x.part(1, 59, 0);
        Check.same("behind the first place", x.parent(1, 0), NONE);
        Check.same("before the last place", x.parent(58, 0), NONE);
        Check.same("a node alone", Make.nodes(1, 0).parent(0, 0), NONE);
    }

    private static void promise10Numbers() {
        Check.sentence("10: IndexOutOfBounds: a number given for a node or place is none that there is.");
        Refusals of = new Refusals(Make::threeSamples);
        of.indexOutside("place", 0, 59, (t, place) -> t.parent(place, 0));
        of.indexOutside("node", 0, 5, (t, n) -> t.parent(59, n));
        new Refusals(() -> Make.longestChain(true)).indexOutside("of 14", 0, 13, (t, n) -> t.parent(59, n));
    }

    private static void promise11Nearest() {
        Check.sentence("11: The nearest node that is, at a place, a or above a, and b or above b");
        LineageTables x = Make.longestChain(false);
        for (int n = 0; n < 14; n++) {
            Check.same("a node and itself", x.meet(0, n, n), n);
            Check.same("one and one above", x.meet(0, n, 13), 13);
            Check.same("one and one below", x.meet(59, n, 0), n);
        }
        LineageTables two = Make.nodes(2, 0, 0, 5, 5, 9);
        two.join(0, 60, 2, 0);
        two.join(0, 60, 3, 1);
        two.join(0, 60, 4, 2);
        two.join(0, 59, 4, 3);
        Check.same("above both", two.meet(58, 0, 1), 4);
        Check.same("above both, the other way", two.meet(58, 1, 0), 4);
        two.join(59, 60, 4, 3);
        two.part(0, 1, 1);
        two.join(0, 1, 2, 1);
        Check.same("the nearer of two above both", two.meet(0, 1, 0), 2);
    }

    private static void promise11None() {
        Check.sentence("11: NONE if none.");
        LineageTables x = Make.longestChain(false);
        x.part(59, 60, 12);
        Check.same("the top and the bottom", x.meet(59, 0, 13), NONE);
        Check.same("the other way", x.meet(59, 13, 0), NONE);
        Check.same("at the place before", x.meet(58, 0, 13), 13);
        LineageTables two = Make.nodes(1, 0, 0);
        Check.same("two alone", two.meet(0, 0, 1), NONE);
        Check.same("one alone and itself", two.meet(0, 1, 1), 1);
    }

    private static void promise11Numbers() {
        Check.sentence("11: IndexOutOfBounds: a number given for a node or place is none that there is.");
        Refusals of = new Refusals(Make::threeSamples);
        of.indexOutside("place", 0, 59, (t, place) -> t.meet(place, 0, 1));
        of.indexOutside("place, of one node", 0, 59, (t, place) -> t.meet(place, 0, 0));
        of.indexOutside("a", 0, 5, (t, n) -> t.meet(0, n, 5));
        of.indexOutside("b", 0, 5, (t, n) -> t.meet(59, 5, n));
        of.indexOutside("both", 0, 5, (t, n) -> t.meet(0, n, n));
    }

    private static void promise12Fewest() {
        Check.sentence("12: Into how few runs the places can be cut");
        Check.same("without nodes", new LineageTables().trees(), 1);
        Check.same("without edges", Make.nodes(2, 0, 0).trees(), 1);
        Check.same("with edges for all places", Make.longestChain(false).trees(), 1);
        LineageTables x = Make.nodes(1, 0, 5);
        x.join(59, 60, 1, 0);
        Check.same("with one at the last place", x.trees(), 2);
        x.join(0, 1, 1, 0);
        Check.same("with one at the first place too", x.trees(), 3);
    }

    private static void promise12Most() {
        Check.sentence("12: Into how few runs the places can be cut");
        LineageTables x = manyEdges();
        Check.same("another tree at each place", x.trees(), 60);
        Check.same("cut(59)", x.cut(59), 59);
        Check.same("cut(60)", x.cut(60), 60);
        x.part(0, 1, 6);
        Check.same("with one parent less", x.trees(), 60);
    }

    private static void promise12SameParents() {
        Check.sentence("12: so that within each all nodes have the same parents everywhere.");
        LineageTables x = Make.nodes(2, 0, 0, 5, 5);
        x.join(0, 30, 2, 0);
        x.join(30, 60, 2, 1);
        Check.same("another child", Reading.cuts(x), "0 30 60");
        x.join(30, 60, 3, 0);
        Check.same("another parent", Reading.cuts(x), "0 30 60");
        x.join(0, 30, 2, 1);
        x.part(30, 60, 0);
        x.join(30, 60, 2, 0);
        Check.same("the same everywhere", Reading.cuts(x), "0 60");
        LineageTables last = Make.nodes(2, 0, 0, 5, 5);
        last.join(10, 11, 3, 1);
        Check.same("one node alone at one place", Reading.cuts(last), "0 10 11 60");
        last.site(20, 0);
        last.mutate(0, 1, 1);
        Check.same("mutations cut nothing", Reading.cuts(last), "0 10 11 60");
    }

    private static void promise13FirstPlaces() {
        Check.sentence("13: The first place of run i of those, from 0");
        LineageTables x = Make.nodes(1, 0, 5);
        Check.same("the first of one", x.cut(0), 0);
        x.join(1, 59, 1, 0);
        Check.same("the first of three", x.cut(0), 0);
        Check.same("the second", x.cut(1), 1);
        Check.same("the third", x.cut(2), 59);
    }

    private static void promise13BehindTheLast() {
        Check.sentence("13: 60 for the one behind the last.");
        Check.same("of nothing", new LineageTables().cut(1), 60);
        LineageTables x = Make.nodes(1, 0, 5);
        x.join(59, 60, 1, 0);
        Check.same("of two", x.cut(2), 60);
        x.part(59, 60, 0);
        Check.same("of one again", x.cut(1), 60);
    }

    private static void promise13Others() {
        Check.sentence("13: IndexOutOfBounds for others.");
        new Refusals(LineageTables::new).indexOutside("of nothing", 0, 1, (t, i) -> t.cut(i));
        new Refusals(Make::threeSamples).indexOutside("of four", 0, 4, (t, i) -> t.cut(i));
        LineageTables x = manyEdges();
        Check.same("of sixty", Check.outcome(() -> x.cut(61)), "throws.IndexOutOfBoundsException");
        Check.same("the one before", Check.outcome(() -> x.cut(-1)), "throws.IndexOutOfBoundsException");
    }

    private static void promise14Letter() {
        Check.sentence("14: The letter that a node has at a site.");
        LineageTables x = Make.fullOfMutations();
        Check.same("the first at the first", x.letter(0, 0), 0);
        Check.same("the last at the last", x.letter(7, 13), 0);
        Check.same("the last at the first", x.letter(0, 13), 1);
        Check.same("the first at the last", x.letter(7, 0), 3);
        for (int n = 0; n < 14; n++) {
            x.mutate(7, n, -1);
        }
        Check.same("the last without", x.letter(7, 13), 3);
        x.join(56, 57, 13, 0);
        x.mutate(7, 13, 2);
        Check.same("from the last node at the last site", x.letter(7, 0), 2);
        x.mutate(6, 0, -1);
        Check.same("not at a place where it is not above", x.letter(6, 0), 2);
    }

    private static void promise14Numbers() {
        Check.sentence("14: IndexOutOfBounds: a number given for a node or site is none that there is.");
        new Refusals(() -> Make.nodes(1, 0)).index("a site of none", t -> t.letter(0, 0));
        new Refusals(() -> {
            LineageTables x = new LineageTables();
            x.site(0, 0);
            return x;
        }).index("a node of none", t -> t.letter(0, 0));
        Refusals of = new Refusals(Make::fullOfMutations);
        of.indexOutside("site", 0, 7, (t, site) -> t.letter(site, 13));
        of.indexOutside("node", 0, 13, (t, n) -> t.letter(7, n));
    }
}
