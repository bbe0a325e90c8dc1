/** "What it is" and "Terms": a test for each sentence that names a boundary; making smaller has a file of its own. */
public final class TermsBoundaryTest {
    private static final int NONE = LineageTables.NONE;
    private static final String INDEX = "throws.IndexOutOfBoundsException";

    private TermsBoundaryTest() {
    }

    public static void main(String[] args) {
        callsThatBuild();
        callsThatAreRefused();
        callsThatMakeSmaller();
        places();
        nodesAreFourteen();
        times();
        samplesOrNot();
        oneParentOrNone();
        aboveAndBelow();
        edgesAsLongAsCanBe();
        edgesInOrder();
        sitesAreEight();
        sitesOfOnePlace();
        letters();
        oneMutationForSiteAndNode();
        hasItsOwnLetter();
        hasTheNearestLetter();
        hasTheAncestralLetter();
        live();
        fork();
        noSuchNumber();
        Check.end();
    }

    private static void callsThatBuild() {
        Check.sentence("An object is used for at most 512 calls after it has been made");
        LineageTables x = Make.nodes(2, 0, 1);
        x.site(0, 0);
        for (int call = 4; call <= 511; call++) {
            Check.same("mutate as call " + call, x.mutate(0, 1, call % 4), call == 4 ? NONE : (call - 1) % 4);
        }
        Check.same("letter(0, 1) as call 512", x.letter(0, 1), 3);
    }

    private static void callsThatAreRefused() {
        Check.sentence("An object is used for at most 512 calls after it has been made");
        LineageTables x = new LineageTables();
        for (int call = 1; call <= 511; call++) {
            Check.same("time(0) as call " + call, Check.outcome(() -> x.time(0)), INDEX);
        }
        Check.same("node(1000, true) as call 512", x.node(1000, true), 0);
    }

    private static void callsThatMakeSmaller() {
        Check.sentence("An object is used for at most 512 calls after it has been made");
        LineageTables x = Make.nodes(2, 0, 0);
        for (int call = 3; call <= 508; call += 2) {
            Check.same("node as call " + call, x.node(5, false), 2);
            Check.same("simplify as call " + (call + 1), x.simplify(), 2);
        }
        Check.same("node as call 509", x.node(7, false), 2);
        Check.same("join as call 510", x.join(0, 60, 2, 1), 60);
        Check.same("area as call 511", x.area(), 420);
        Check.same("simplify as call 512", x.simplify(), 2);
    }

    private static void places() {
        Check.sentence("PLACES are 0 .. 59.");
        for (int place = -2; place <= 62; place++) {
            int at = place;
            boolean is = place >= 0 && place <= 59;
            LineageTables x = Make.nodes(1, 0, 1);
            Check.same("join at " + at, Check.outcome(() -> x.join(at, at + 1, 1, 0)), is ? "1" : INDEX);
            Check.same("parent at " + at, Check.outcome(() -> x.parent(at, 0)), is ? "1" : INDEX);
            Check.same("meet at " + at, Check.outcome(() -> x.meet(at, 0, 1)), is ? "1" : INDEX);
            Check.same("site at " + at, Check.outcome(() -> x.site(at, 0)), is ? "0" : INDEX);
            Check.same("part at " + at, Check.outcome(() -> x.part(at, at + 1, 0)), is ? "1" : INDEX);
            Check.same("edges after that", x.count(2), 0);
        }
    }

    private static void nodesAreFourteen() {
        Check.sentence("NODES are numbered from 0 as they are added, at most 14");
        LineageTables x = new LineageTables();
        for (int n = 0; n < 14; n++) {
            Check.same("time(" + n + ") before", Check.outcome(() -> x.time(x.count(0))), INDEX);
            Check.same("node " + n, x.node(1000 - n, false), n);
            Check.same("nodes", x.count(0), n + 1);
        }
        for (int n = 0; n < 14; n++) {
            Check.same("time(" + n + ")", x.time(n), 1000 - n);
        }
        Check.same("one more", Check.outcome(() -> x.node(0, false)), "throws.IllegalStateException");
        Check.same("nodes at last", x.count(0), 14);
    }

    private static void times() {
        Check.sentence("each has a TIME 0 .. 1000");
        for (int time = -2; time <= 1002; time++) {
            int at = time;
            LineageTables x = new LineageTables();
            boolean is = time >= 0 && time <= 1000;
            Check.same("node of time " + at, Check.outcome(() -> x.node(at, true)),
                    is ? "0" : "throws.IllegalArgumentException");
            Check.same("its time", Check.outcome(() -> x.time(0)), is ? Integer.toString(at) : INDEX);
        }
    }

    private static void samplesOrNot() {
        Check.sentence("and is a SAMPLE or not");
        for (int samples = 0; samples <= 14; samples++) {
            LineageTables x = new LineageTables();
            for (int n = 0; n < 14; n++) {
                x.node(n, n < samples);
            }
            Check.same("samples", x.count(1), samples);
            Check.same("they stay", x.simplify(), samples);
        }
    }

    private static void oneParentOrNone() {
        Check.sentence("At every place a node has one PARENT, which has a greater time, or none.");
        LineageTables x = Make.nodes(0, 0, 1, 1, 0);
        x.join(0, 30, 1, 0);
        x.join(30, 60, 2, 0);
        for (int place = 0; place < 60; place++) {
            Check.same("parent(" + place + ", 0)", x.parent(place, 0), place < 30 ? 1 : 2);
            Check.same("parent(" + place + ", 1)", x.parent(place, 1), NONE);
        }
        Refusals of = new Refusals(() -> Make.nodes(0, 0, 1, 1, 0));
        of.argument("a parent of the same time", t -> t.join(0, 60, 2, 1));
        of.argument("a parent of time 0 too", t -> t.join(0, 60, 0, 3));
    }

    private static void aboveAndBelow() {
        Check.sentence("ABOVE a node at a place are its parent there and all above that");
        LineageTables x = Make.longestChain(false);
        x.site(59, 0);
        for (int n = 13; n >= 0; n--) {
            x.mutate(0, n, 1 + n % 3);
            Check.same("from node " + n + " down to 0", x.letter(0, 0), 1 + n % 3);
            Check.same("up from 0 to node " + n, x.meet(59, 0, n), n);
        }
        x.part(59, 60, 6);
        Check.same("what is above 6 no more", x.meet(59, 6, 7), NONE);
        Check.same("nor above what is below it", x.meet(59, 0, 13), NONE);
        Check.same("at the place beside it still", x.meet(58, 0, 13), 13);
    }

    private static void edgesAsLongAsCanBe() {
        Check.sentence("a run of places left .. right - 1, as long as can be, in all of which p is the parent of c");
        LineageTables x = Make.nodes(0, 0, 5, 5);
        for (int place = 59; place >= 0; place--) {
            x.join(place, place + 1, 1, 0);
        }
        Check.same("sixty places one by one", Reading.edges(x), "0-60:1>0");
        x.part(30, 31, 0);
        Check.same("with a gap of one place", Reading.edges(x), "0-30:1>0 31-60:1>0");
        x.join(30, 31, 2, 0);
        Check.same("with another parent there", Reading.edges(x), "0-30:1>0 31-60:1>0 30-31:2>0");
        x.part(0, 1, 0);
        x.part(59, 60, 0);
        Check.same("without the ends", Reading.edges(x), "1-30:1>0 31-59:1>0 30-31:2>0");
        x.part(30, 31, 0);
        x.join(30, 31, 1, 0);
        Check.same("with the gap closed", Reading.edges(x), "1-59:1>0");
    }

    private static void edgesInOrder() {
        Check.sentence("in the order of the time of the parent, then its number, then the child's number, then left");
        LineageTables x = Make.nodes(0, 1000, 999, 999, 0, 0);
        x.join(59, 60, 0, 1);
        x.join(58, 59, 2, 4);
        x.join(56, 57, 2, 4);
        x.join(59, 60, 2, 3);
        x.join(57, 58, 1, 4);
        x.join(59, 60, 1, 4);
        x.join(58, 59, 0, 3);
        x.join(0, 1, 0, 4);
        Check.same("edges", Reading.edges(x), "57-58:1>4 59-60:1>4 59-60:2>3 56-57:2>4 58-59:2>4"
                + " 59-60:0>1 58-59:0>3 0-1:0>4");
    }

    private static void sitesAreEight() {
        Check.sentence("SITES are numbered from 0 as they are added, at most 8");
        LineageTables x = Make.nodes(1, 0);
        for (int site = 0; site < 8; site++) {
            int next = site;
            Check.same("letter(" + site + ", 0) before", Check.outcome(() -> x.letter(next, 0)), INDEX);
            Check.same("site " + site, x.site(59 - site, site % 4), site);
            Check.same("sites", x.count(3), site + 1);
        }
        Check.same("letters", Reading.letters(x), "0 1 2 3 0 1 2 3");
        Check.same("one more", Check.outcome(() -> x.site(0, 0)), "throws.IllegalStateException");
        Check.same("sites at last", x.count(3), 8);
    }

    private static void sitesOfOnePlace() {
        Check.sentence("each has a place, no two the same");
        for (int first = 0; first < 60; first += 59) {
            for (int place = 0; place < 60; place++) {
                int at = place;
                LineageTables x = new LineageTables();
                x.site(first, 0);
                Check.same("site at " + at + " beside " + first, Check.outcome(() -> x.site(at, 1)),
                        at == first ? "throws.IllegalArgumentException" : "1");
            }
        }
    }

    private static void letters() {
        Check.sentence("letters are 0 .. 3");
        for (int letter = -3; letter <= 6; letter++) {
            int given = letter;
            boolean is = letter >= 0 && letter <= 3;
            LineageTables x = Make.nodes(1, 0);
            Check.same("site of letter " + given, Check.outcome(() -> x.site(0, given)),
                    is ? "0" : "throws.IllegalArgumentException");
            Check.same("sites", x.count(3), is ? 1 : 0);
            LineageTables y = Make.nodes(1, 0);
            y.site(0, 0);
            Check.same("mutation of letter " + given, Check.outcome(() -> y.mutate(0, 0, given)),
                    is || given == -1 ? "-1" : "throws.IllegalArgumentException");
            Check.same("mutations", y.count(4), is ? 1 : 0);
            Check.same("the letter then", y.letter(0, 0), is ? given : 0);
        }
    }

    private static void oneMutationForSiteAndNode() {
        Check.sentence("A MUTATION is a site, a node and a letter, at most one for a site and a node.");
        LineageTables x = Make.fullOfMutations();
        Check.same("one for each of them", x.count(4), 112);
        for (int site = 0; site < 8; site++) {
            Check.same("one more at site " + site, x.mutate(site, 13, 3), (site + 13) % 4);
        }
        Check.same("mutations then", x.count(4), 112);
    }

    private static void hasItsOwnLetter() {
        Check.sentence("At a site a node HAS the letter of its own mutation there if there is one");
        LineageTables x = Make.nodes(1, 0, 5, 9);
        x.join(0, 60, 1, 0);
        x.join(0, 60, 2, 1);
        x.site(0, 0);
        x.mutate(0, 1, 2);
        x.mutate(0, 2, 3);
        x.mutate(0, 0, 0);
        Check.same("its own, though it is the ancestral one", x.letter(0, 0), 0);
        Check.same("not that of one below", x.letter(0, 1), 2);
        x.site(1, 1);
        Check.same("not that of another site", x.letter(1, 0), 1);
    }

    private static void hasTheNearestLetter() {
        Check.sentence("else of the mutation of the nearest node above it at the site's place that has one");
        LineageTables x = Make.nodes(1, 0, 5, 9, 3);
        x.join(0, 30, 1, 0);
        x.join(30, 60, 3, 0);
        x.join(0, 60, 2, 1);
        x.join(0, 60, 2, 3);
        x.site(29, 1);
        x.site(30, 1);
        for (int site = 0; site < 2; site++) {
            x.mutate(site, 2, 0);
            x.mutate(site, 3, 2);
        }
        Check.same("at the last place below 1", x.letter(0, 0), 0);
        Check.same("at the first place below 3", x.letter(1, 0), 2);
        x.mutate(0, 1, 3);
        Check.same("the nearer one", x.letter(0, 0), 3);
        x.part(29, 30, 0);
        Check.same("none above any more", x.letter(0, 0), 1);
    }

    private static void hasTheAncestralLetter() {
        Check.sentence("else the ancestral letter");
        LineageTables x = Make.nodes(1, 0, 5, 5);
        x.join(0, 60, 1, 0);
        for (int site = 0; site < 4; site++) {
            x.site(site, site);
            x.mutate(site, 2, 3 - site);
            Check.same("below nodes without mutations", x.letter(site, 0), site);
            Check.same("without a parent", x.letter(site, 1), site);
        }
    }

    private static void live() {
        Check.sentence("A node is LIVE at a place when it is a sample or some sample is below it there.");
        LineageTables x = new LineageTables();
        x.node(0, true);
        x.node(5, false);
        x.node(1000, false);
        x.node(9, true);
        x.join(0, 60, 2, 3);
        Check.same("a sample with nothing below it", x.area(), 991 * 60);
        x.join(0, 60, 2, 1);
        Check.same("a node with nothing below it", x.area(), 991 * 60);
        x.join(59, 60, 1, 0);
        Check.same("a sample below it at the last place", x.area(), 991 * 60 + 5 + 995);
        x.part(59, 60, 0);
        x.join(0, 1, 1, 0);
        Check.same("a sample below it at the first place", x.area(), 991 * 60 + 5 + 995);
    }

    private static void fork() {
        Check.sentence("It is a FORK there when at least two live nodes have it as their parent there.");
        LineageTables x = Make.nodes(3, 0, 0, 0, 5, 4);
        x.join(0, 30, 3, 0);
        x.join(30, 60, 3, 1);
        x.join(0, 60, 3, 4);
        Check.same("one live child at each place", x.simplify(), 3);
        LineageTables two = Make.nodes(3, 0, 0, 0, 5, 4);
        two.join(0, 31, 3, 0);
        two.join(30, 60, 3, 1);
        Check.same("two live children at one place", two.simplify(), 4);
        Check.same("edges of two", Reading.edges(two), "30-31:3>0 30-31:3>1");
        LineageTables three = Make.nodes(3, 0, 0, 0, 5, 4);
        three.join(0, 60, 3, 0);
        three.join(0, 60, 3, 1);
        three.join(0, 60, 3, 2);
        Check.same("three live children", three.simplify(), 4);
    }

    private static void noSuchNumber() {
        Check.sentence("IndexOutOfBounds: a number given for a node, site or place is none that there is.");
        // Five nodes and one site were there before the making smaller; three nodes are left.
        Refusals of = new Refusals(() -> {
            LineageTables x = Make.nodes(3, 0, 1, 2, 5, 9);
            x.join(0, 60, 3, 0);
            x.site(0, 0);
            x.mutate(0, 3, 2);
            x.simplify();
            return x;
        });
        of.indexOutside("time", 0, 2, (t, n) -> t.time(n));
        of.indexOutside("join as parent", 0, 2, (t, n) -> t.join(0, 60, n, 0));
        of.indexOutside("join as child", 0, 2, (t, n) -> t.join(0, 60, 2, n));
        of.indexOutside("part", 0, 2, (t, n) -> t.part(0, 60, n));
        of.indexOutside("mutate", 0, 2, (t, n) -> t.mutate(0, n, 1));
        of.indexOutside("mutate of site", 0, 0, (t, s) -> t.mutate(s, 0, 1));
        of.indexOutside("letter", 0, 2, (t, n) -> t.letter(0, n));
        of.indexOutside("letter of site", 0, 0, (t, s) -> t.letter(s, 0));
        of.indexOutside("parent", 0, 2, (t, n) -> t.parent(0, n));
        of.indexOutside("parent at place", 0, 59, (t, s) -> t.parent(s, 0));
        of.indexOutside("meet as first", 0, 2, (t, n) -> t.meet(0, n, 0));
        of.indexOutside("meet as second", 0, 2, (t, n) -> t.meet(0, 0, n));
        of.indexOutside("meet at place", 0, 59, (t, s) -> t.meet(s, 0, 1));
        of.indexOutside("site at place", 0, 59, (t, s) -> t.site(s, 1));
    }
}
