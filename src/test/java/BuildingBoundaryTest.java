/** Promises 1 to 6: a test for each sentence that names a boundary. */
public final class BuildingBoundaryTest {
    private static final int NONE = LineageTables.NONE;
    private static final String INDEX = "throws.IndexOutOfBoundsException";

    private BuildingBoundaryTest() {
    }

    public static void main(String[] args) {
        promise1NoNodesNoSites();
        promise1NothingMadeSmaller();
        promise2Number();
        promise2Time();
        promise2Fourteen();
        promise2RoomAgain();
        promise3PlacesWithoutParent();
        promise3HowMany();
        promise3NotCounted();
        promise3Places();
        promise3Nodes();
        promise3GreaterTime();
        promise3AnotherParent();
        promise3AnotherParentBeside();
        promise4NoParent();
        promise4HowMany();
        promise4Places();
        promise4Nodes();
        promise5Number();
        promise5Places();
        promise5Ancestral();
        promise5PlaceHasSite();
        promise5Eight();
        promise6InPlaceOfOne();
        promise6NoneThere();
        promise6LetterItHad();
        promise6Letter();
        promise6Numbers();
        Check.end();
    }

    private static void promise1NoNodesNoSites() {
        Check.sentence("1: No nodes, no sites");
        LineageTables x = new LineageTables();
        Check.same("all of it", Reading.of(x), "0 0 0 0 0 times edges  letters  area 0");
        Check.same("trees", Reading.cuts(x), "0 60");
        Check.same("differing()", x.differing(), 0);
        Check.same("spectrum(0)", x.spectrum(0), 0);
        Check.same("spectrum(1)", x.spectrum(1), 0);
        Refusals of = new Refusals(LineageTables::new);
        of.index("time(0)", t -> t.time(0));
        of.index("join(0, 60, 0, 0)", t -> t.join(0, 60, 0, 0));
        of.index("part(0, 60, 0)", t -> t.part(0, 60, 0));
        of.index("mutate(0, 0, -1)", t -> t.mutate(0, 0, -1));
        of.index("edge(0, 0)", t -> t.edge(0, 0));
        of.index("parent(0, 0)", t -> t.parent(0, 0));
        of.index("meet(0, 0, 0)", t -> t.meet(0, 0, 0));
        of.index("letter(0, 0)", t -> t.letter(0, 0));
        of.index("cut(2)", t -> t.cut(2));
        Check.same("the first site", x.site(0, 0), 0);
        Check.same("the first node", x.node(0, false), 0);
        Check.same("nodes of another object", new LineageTables().count(0), 0);
        Check.same("sites of another object", new LineageTables().count(3), 0);
    }

    private static void promise1NothingMadeSmaller() {
        Check.sentence("1: nothing was made smaller yet");
        LineageTables x = new LineageTables();
        Check.same("became without nodes", Reading.became(x), " -1".repeat(14));
        x.node(0, true);
        x.node(5, true);
        Check.same("became with two nodes", Reading.became(x), " -1".repeat(14));
    }

    private static LineageTables ofNodes(int nodes, boolean sample) {
        LineageTables x = new LineageTables();
        for (int n = 0; n < nodes; n++) {
            x.node(n, sample);
        }
        return x;
    }

    private static void promise2Number() {
        Check.sentence("2: A node more: its number.");
        for (int n = 0; n < 14; n++) {
            Check.same("node behind " + n, ofNodes(n, true).node(0, false), n);
            Check.same("node behind " + n + " that are no samples", ofNodes(n, false).node(1000, true), n);
        }
    }

    private static void promise2Time() {
        Check.sentence("2: IllegalArgument: time is not 0 .. 1000.");
        LineageTables x = new LineageTables();
        Check.same("node(0, true)", x.node(0, true), 0);
        Check.same("node(1000, true)", x.node(1000, true), 1);
        Check.same("node(0, false)", x.node(0, false), 2);
        Check.same("node(1000, false)", x.node(1000, false), 3);
        Refusals of = new Refusals(() -> ofNodes(2, true));
        of.argumentOutside("node of a sample", 0, 1000, (t, time) -> t.node(time, true));
        of.argumentOutside("node of no sample", 0, 1000, (t, time) -> t.node(time, false));
    }

    private static void promise2Fourteen() {
        Check.sentence("2: IllegalState: there are 14.");
        Check.same("the fourteenth", ofNodes(13, true).node(0, true), 13);
        Refusals of = new Refusals(() -> ofNodes(14, true));
        of.state("a fifteenth of time 0", t -> t.node(0, true));
        of.state("a fifteenth of time 1000", t -> t.node(1000, false));
    }

    private static void promise2RoomAgain() {
        Check.sentence("2: IllegalState: there are 14.");
        LineageTables all = ofNodes(14, true);
        Check.same("all stay", all.simplify(), 14);
        Check.same("a fifteenth still", Check.outcome(() -> all.node(0, true)), "throws.IllegalStateException");
        LineageTables one = ofNodes(13, true);
        one.node(5, false);
        Check.same("one goes", one.simplify(), 13);
        Check.same("a node in its place", one.node(9, false), 13);
        Check.same("a fifteenth then", Check.outcome(() -> one.node(0, true)), "throws.IllegalStateException");
        LineageTables none = ofNodes(14, false);
        Check.same("all go", none.simplify(), 0);
        Check.same("a node from the start", none.node(1, true), 0);
        Check.same("its time", none.time(0), 1);
    }

    private static void promise3PlacesWithoutParent() {
        Check.sentence("3: Node p becomes the parent of c at the places left .. right - 1 at which c has none.");
        LineageTables x = Make.nodes(0, 0, 5, 5);
        x.join(20, 40, 1, 0);
        Check.same("before left", x.parent(19, 0), NONE);
        Check.same("at left", x.parent(20, 0), 1);
        Check.same("at right - 1", x.parent(39, 0), 1);
        Check.same("at right", x.parent(40, 0), NONE);
        x.join(0, 1, 2, 0);
        x.join(59, 60, 2, 0);
        Check.same("at the ends", Reading.edges(x), "20-40:1>0 0-1:2>0 59-60:2>0");
        x.join(1, 50, 1, 0);
        Check.same("at places with and without", Reading.edges(x), "1-50:1>0 0-1:2>0 59-60:2>0");
        Check.same("others have none", x.parent(30, 1), NONE);
    }

    private static void promise3HowMany() {
        Check.sentence("3: Answers at how many.");
        LineageTables x = Make.nodes(0, 0, 5, 6);
        Check.same("at one", x.join(59, 60, 1, 0), 1);
        Check.same("at the rest", x.join(0, 59, 1, 0), 59);
        Check.same("at none", x.join(0, 60, 1, 0), 0);
        Check.same("at all", x.join(0, 60, 2, 1), 60);
    }

    private static void promise3NotCounted() {
        Check.sentence("3: (Places at which p is it already are not counted.)");
        LineageTables x = Make.nodes(0, 0, 5, 5);
        x.join(10, 20, 1, 0);
        Check.same("all of them", x.join(10, 20, 1, 0), 0);
        Check.same("one of them", x.join(19, 20, 1, 0), 0);
        Check.same("the first not", x.join(9, 20, 1, 0), 1);
        Check.same("the last not", x.join(9, 21, 1, 0), 1);
        Check.same("those around", x.join(0, 60, 1, 0), 60 - 12);
        Check.same("edges", Reading.edges(x), "0-60:1>0");
    }

    private interface RunCheck {
        void check(int left, int right, String due);
    }

    /** Every left and right from below the bounds to above them; due is how many places they hold, or the refusal. */
    private static void forRunsRoundTheBounds(RunCheck one) {
        for (int left = -2; left <= 62; left++) {
            for (int right = -2; right <= 62; right++) {
                boolean is = 0 <= left && left < right && right <= 60;
                one.check(left, right, is ? Integer.toString(right - left) : INDEX);
            }
        }
    }

    private static void promise3Places() {
        Check.sentence("3: IndexOutOfBounds also when not 0 <= left < right <= 60.");
        forRunsRoundTheBounds((left, right, due) -> {
            LineageTables x = Make.nodes(0, 0, 5);
            Check.same("join(" + left + ", " + right + ", 1, 0)", Check.outcome(() -> x.join(left, right, 1, 0)), due);
            Check.same("edges then", x.count(2), due.equals(INDEX) ? 0 : 1);
        });
        Refusals of = new Refusals(() -> Make.nodes(0, 0, 5));
        of.indexOutside("left far away", 0, 59, (t, left) -> t.join(left, 60, 1, 0));
        of.indexOutside("right far away", 1, 60, (t, right) -> t.join(0, right, 1, 0));
    }

    private static void promise3Nodes() {
        Check.sentence("3: IndexOutOfBounds: a number given for a node is none that there is.");
        Refusals of = new Refusals(Make::threeSamples);
        of.indexOutside("p", 0, 5, (t, p) -> t.join(0, 60, p, 0));
        of.indexOutside("c", 0, 5, (t, c) -> t.join(0, 60, 5, c));
        of.indexOutside("both", 0, 5, (t, n) -> t.join(0, 60, n, n));
    }

    private static void promise3GreaterTime() {
        Check.sentence("3: IllegalArgument: the time of p is not greater than that of c.");
        int[] times = {0, 1, 999, 1000};
        for (int ofParent : times) {
            for (int ofChild : times) {
                LineageTables x = Make.nodes(0, ofParent, ofChild);
                boolean is = ofParent > ofChild;
                Check.same("join of " + ofParent + " above " + ofChild, Check.outcome(() -> x.join(0, 60, 0, 1)),
                        is ? "60" : "throws.IllegalArgumentException");
                Check.same("edges then", x.count(2), is ? 1 : 0);
            }
        }
        Refusals of = new Refusals(Make::threeSamples);
        of.argument("a node and itself", t -> t.join(0, 60, 5, 5));
        of.argument("a parent below its own child", t -> t.join(0, 60, 0, 3));
    }

    /** Nodes of times 0, 5, 6, 7; 1 is the parent of 0 at the places 20 .. 39. */
    private static LineageTables joinedInTheMidst() {
        LineageTables x = Make.nodes(1, 0, 5, 6, 7);
        x.join(20, 40, 1, 0);
        return x;
    }

    private static void promise3AnotherParent() {
        Check.sentence("3: IllegalState: at one of these places c has another parent.");
        Refusals of = new Refusals(BuildingBoundaryTest::joinedInTheMidst);
        of.state("at the last of them", t -> t.join(0, 21, 2, 0));
        of.state("at the first of them", t -> t.join(39, 60, 2, 0));
        of.state("in the midst of them", t -> t.join(0, 60, 2, 0));
        of.state("at all of them", t -> t.join(20, 40, 2, 0));
        of.state("at the one there is", t -> t.join(30, 31, 2, 0));
        Refusals both = new Refusals(() -> {
            LineageTables x = joinedInTheMidst();
            x.join(0, 20, 2, 0);
            return x;
        });
        both.state("where p is it at the others", t -> t.join(0, 21, 2, 0));
        both.state("where p is it at some and none at some", t -> t.join(19, 60, 1, 0));
    }

    private static void promise3AnotherParentBeside() {
        Check.sentence("3: IllegalState: at one of these places c has another parent.");
        LineageTables x = joinedInTheMidst();
        Check.same("up to another", x.join(0, 20, 2, 0), 20);
        Check.same("from another on", x.join(40, 60, 2, 0), 20);
        Check.same("another child", x.join(0, 60, 3, 1), 60);
        Check.same("the parent of the parent", x.join(0, 60, 3, 2), 60);
        Check.same("edges", Reading.edges(x), "20-40:1>0 0-20:2>0 40-60:2>0 0-60:3>1 0-60:3>2");
    }

    private static void promise4NoParent() {
        Check.sentence("4: Node c has no parent at the places left .. right - 1.");
        LineageTables x = Make.nodes(0, 0, 5, 9);
        x.join(0, 60, 1, 0);
        x.join(0, 60, 2, 1);
        x.part(20, 40, 1);
        Check.same("before left", x.parent(19, 1), 2);
        Check.same("at left", x.parent(20, 1), NONE);
        Check.same("at right - 1", x.parent(39, 1), NONE);
        Check.same("at right", x.parent(40, 1), 2);
        Check.same("its child keeps it", x.parent(30, 0), 1);
        x.part(0, 1, 1);
        x.part(59, 60, 1);
        Check.same("at the ends", Reading.edges(x), "0-60:1>0 1-20:2>1 40-59:2>1");
        x.part(0, 60, 1);
        Check.same("at all", Reading.edges(x), "0-60:1>0");
    }

    private static void promise4HowMany() {
        Check.sentence("4: Answers at how many of them it had one.");
        LineageTables x = joinedInTheMidst();
        x.join(40, 50, 2, 0);
        Check.same("none before", x.part(0, 20, 0), 0);
        Check.same("none behind", x.part(50, 60, 0), 0);
        Check.same("of a node without", x.part(0, 60, 1), 0);
        Check.same("the first", x.part(0, 21, 0), 1);
        Check.same("the last", x.part(49, 60, 0), 1);
        Check.same("of two parents", x.part(39, 41, 0), 2);
        Check.same("the rest", x.part(0, 60, 0), 18 + 8);
        Check.same("once more", x.part(0, 60, 0), 0);
        x.join(0, 60, 3, 0);
        Check.same("all", x.part(0, 60, 0), 60);
    }

    private static void promise4Places() {
        Check.sentence("4: IndexOutOfBounds also when not 0 <= left < right <= 60.");
        forRunsRoundTheBounds((left, right, due) -> {
            LineageTables x = Make.nodes(0, 0, 5);
            x.join(0, 60, 1, 0);
            Check.same("part(" + left + ", " + right + ", 0)", Check.outcome(() -> x.part(left, right, 0)), due);
            Check.same("places that are left", x.part(0, 60, 0), due.equals(INDEX) ? 60 : 60 - right + left);
        });
        Refusals of = new Refusals(BuildingBoundaryTest::joinedInTheMidst);
        of.indexOutside("left far away", 0, 59, (t, left) -> t.part(left, 60, 0));
        of.indexOutside("right far away", 1, 60, (t, right) -> t.part(0, right, 0));
    }

    private static void promise4Nodes() {
        Check.sentence("4: IndexOutOfBounds: a number given for a node is none that there is.");
        new Refusals(Make::threeSamples).indexOutside("c", 0, 5, (t, c) -> t.part(0, 60, c));
    }

    private static LineageTables ofSites(int sites) {
        LineageTables x = Make.nodes(1, 0);
        for (int site = 0; site < sites; site++) {
            x.site(10 + site, site % 4);
        }
        return x;
    }

    private static void promise5Number() {
        Check.sentence("5: A site more: its number.");
        for (int site = 0; site < 8; site++) {
            LineageTables x = ofSites(site);
            Check.same("site behind " + site, x.site(0, 3), site);
            Check.same("its letter", x.letter(site, 0), 3);
        }
    }

    private static void promise5Places() {
        Check.sentence("5: IndexOutOfBounds: a number given for a place is none that there is.");
        LineageTables x = ofSites(0);
        Check.same("the first place", x.site(0, 0), 0);
        Check.same("the last place", x.site(59, 0), 1);
        new Refusals(() -> ofSites(1)).indexOutside("site", 0, 59, (t, place) -> t.site(place, 0));
    }

    private static void promise5Ancestral() {
        Check.sentence("5: IllegalArgument: ancestral is not 0 .. 3");
        LineageTables x = Make.nodes(1, 0);
        x.site(20, 0);
        x.site(21, 3);
        Check.same("letters", Reading.letters(x), "0 3");
        new Refusals(() -> ofSites(1)).argumentOutside("site", 0, 3, (t, letter) -> t.site(0, letter));
    }

    private static void promise5PlaceHasSite() {
        Check.sentence("5: or the place has a site.");
        for (int site = 0; site < 7; site++) {
            int place = 10 + site;
            Refusals of = new Refusals(() -> ofSites(7));
            of.argument("the place of site " + site, t -> t.site(place, 0));
        }
        LineageTables x = ofSites(7);
        Check.same("the place behind theirs", x.site(17, 0), 7);
        LineageTables smaller = ofSites(7);
        smaller.simplify();
        Check.same("when it was made smaller", Check.outcome(() -> smaller.site(16, 0)),
                "throws.IllegalArgumentException");
    }

    private static void promise5Eight() {
        Check.sentence("5: IllegalState: there are 8.");
        Check.same("the eighth", ofSites(7).site(59, 0), 7);
        Refusals of = new Refusals(() -> ofSites(8));
        of.state("a ninth at the first place", t -> t.site(0, 0));
        of.state("a ninth at the last place", t -> t.site(59, 3));
        LineageTables smaller = new LineageTables();
        for (int site = 0; site < 8; site++) {
            smaller.site(site, 0);
        }
        smaller.simplify();
        Check.same("making smaller makes no room", Check.outcome(() -> smaller.site(59, 0)),
                "throws.IllegalStateException");
    }

    private static void promise6InPlaceOfOne() {
        Check.sentence("6: A node gets a mutation at a site, in place of one that it has there");
        LineageTables x = ofSites(2);
        x.mutate(1, 0, 3);
        x.mutate(1, 0, 0);
        Check.same("the new one counts", x.letter(1, 0), 0);
        Check.same("the old one does not", x.count(4), 1);
        x.mutate(1, 0, 0);
        Check.same("the same once more", x.count(4), 1);
        Check.same("at the other site nothing", x.letter(0, 0), 0);
        x.mutate(0, 0, 2);
        Check.same("there it is one more", x.count(4), 2);
    }

    private static void promise6NoneThere() {
        Check.sentence("6: letter -1: it has none there.");
        LineageTables x = ofSites(2);
        x.mutate(0, 0, -1);
        Check.same("none where none was", x.count(4), 0);
        x.mutate(0, 0, 3);
        x.mutate(1, 0, 2);
        x.mutate(0, 0, -1);
        Check.same("none where one was", x.letter(0, 0), 0);
        Check.same("the other stays", x.count(4), 1);
        Check.same("with its letter", x.letter(1, 0), 2);
    }

    private static void promise6LetterItHad() {
        Check.sentence("6: Answers the letter that it had, NONE if none.");
        LineageTables x = Make.nodes(1, 0, 5);
        x.join(0, 60, 1, 0);
        x.site(0, 2);
        Check.same("none on the one above", x.mutate(0, 1, 3), NONE);
        Check.same("none of its own", x.mutate(0, 0, 0), NONE);
        Check.same("letter 0", x.mutate(0, 0, 3), 0);
        Check.same("letter 3", x.mutate(0, 0, 3), 3);
        Check.same("letter 3 again", x.mutate(0, 0, -1), 3);
        Check.same("none again", x.mutate(0, 0, -1), NONE);
        Check.same("none at last", x.mutate(0, 0, 1), NONE);
        Check.same("the one above has its own", x.mutate(0, 1, -1), 3);
    }

    private static void promise6Letter() {
        Check.sentence("6: IllegalArgument: letter is not -1 .. 3.");
        LineageTables x = ofSites(1);
        for (int letter = 3; letter >= -1; letter--) {
            Check.same("mutate(0, 0, " + letter + ")", x.mutate(0, 0, letter), letter == 3 ? NONE : letter + 1);
        }
        Refusals of = new Refusals(() -> {
            LineageTables t = ofSites(2);
            t.mutate(0, 0, 3);
            return t;
        });
        of.argumentOutside("one that has a mutation", -1, 3, (t, letter) -> t.mutate(0, 0, letter));
        of.argumentOutside("one that has none", -1, 3, (t, letter) -> t.mutate(1, 0, letter));
    }

    private static void promise6Numbers() {
        Check.sentence("6: IndexOutOfBounds: a number given for a node or site is none that there is.");
        Refusals of = new Refusals(() -> ofSites(3));
        of.indexOutside("site", 0, 2, (t, site) -> t.mutate(site, 0, 1));
        of.indexOutside("node", 0, 0, (t, node) -> t.mutate(2, node, 1));
        of.indexOutside("site to have none", 0, 2, (t, site) -> t.mutate(site, 0, -1));
        of.indexOutside("node to have none", 0, 0, (t, node) -> t.mutate(2, node, -1));
        Refusals full = new Refusals(Make::fullOfMutations);
        full.indexOutside("a ninth site", 0, 7, (t, site) -> t.mutate(site, 13, 1));
        full.indexOutside("a fifteenth node", 0, 13, (t, node) -> t.mutate(7, node, 1));
    }
}
