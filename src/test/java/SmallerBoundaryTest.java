/** "MAKING SMALLER" and promises 18 and 19: a test for each sentence that names a boundary. */
public final class SmallerBoundaryTest {
    private static final int NONE = LineageTables.NONE;

    private SmallerBoundaryTest() {
    }

    public static void main(String[] args) {
        samplesStay();
        forksAtSomePlaceStay();
        allOthersGo();
        newNumbers();
        timesAndSamples();
        mattersAtThePlace();
        nearestThatMatters();
        noneThatMatters();
        othersHaveNoParent();
        sitesStay();
        mutationOfOneNotLive();
        mutationStaysAtItsNode();
        mutationGoesToTheHighest();
        mutationGoesToOneBelow();
        lowestOfSeveral();
        lowestByPlaceNotNumber();
        promise18HowManyStay();
        promise18WithoutSamples();
        promise18Nothing();
        promise18AddedAfter();
        promise19NumberGot();
        promise19Went();
        promise19NoSuchNode();
        promise19NoneMade();
        promise19Latest();
        promise19LaterNodes();
        promise19OtherCalls();
        Check.end();
    }

    private static void samplesStay() {
        Check.sentence("Nodes that are samples, or forks at some place, stay");
        LineageTables x = Make.longestChain(true);
        Check.same("the first and the last", x.simplify(), 2);
        Check.same("joined", Reading.edges(x), "0-60:1>0");
        Check.same("samples alone", Make.fullOfMutations().simplify(), 14);
        Check.same("one alone", Make.nodes(1, 0).simplify(), 1);
    }

    private static void forksAtSomePlaceStay() {
        Check.sentence("Nodes that are samples, or forks at some place, stay");
        for (int place = 0; place < 60; place++) {
            LineageTables x = Make.nodes(2, 0, 0, 5);
            x.join(0, place + 1, 2, 0);
            x.join(place, 60, 2, 1);
            Check.same("a fork at place " + place, x.simplify(), 3);
            Check.same("and there alone", Reading.edges(x),
                    place + "-" + (place + 1) + ":2>0 " + place + "-" + (place + 1) + ":2>1");
        }
    }

    private static void allOthersGo() {
        Check.sentence("all others go");
        LineageTables x = Make.nodes(2, 0, 0, 5, 9, 9);
        x.join(0, 30, 2, 0);
        x.join(30, 60, 2, 1);
        x.join(0, 60, 3, 2);
        Check.same("one with a sample below at each place, but two at none", x.simplify(), 2);
        Check.same("what is left", Reading.of(x), "2 2 0 0 0 times 0 0 edges  letters  area 0");
        LineageTables dead = Make.nodes(1, 0, 1, 2, 9);
        dead.join(0, 60, 3, 0);
        dead.join(0, 60, 3, 1);
        dead.join(0, 60, 3, 2);
        Check.same("one with three children, of which one is live", dead.simplify(), 1);
    }

    /** Samples of odd numbers, those of even ones are no samples; 12 is a fork, its number among the last. */
    private static LineageTables everyOther() {
        LineageTables x = new LineageTables();
        for (int n = 0; n < 14; n++) {
            x.node(n == 12 ? 1000 : n, n % 2 == 1);
        }
        x.join(0, 60, 12, 1);
        x.join(0, 60, 12, 13);
        return x;
    }

    private static void newNumbers() {
        Check.sentence("Those that stay get new numbers from 0 on, in the order of the old ones");
        LineageTables x = everyOther();
        Check.same("nodes that stay", x.simplify(), 8);
        Check.same("became", Reading.became(x), " -1 0 -1 1 -1 2 -1 3 -1 4 -1 5 6 7");
        Check.same("edges", Reading.edges(x), "0-60:6>0 0-60:6>7");
        LineageTables all = Make.fullOfMutations();
        all.simplify();
        Check.same("when none goes", Reading.became(all), " 0 1 2 3 4 5 6 7 8 9 10 11 12 13");
    }

    private static void timesAndSamples() {
        Check.sentence("and keep their times and whether they are samples");
        LineageTables x = everyOther();
        x.simplify();
        Check.same("times", Reading.of(x), "8 7 2 0 0 times 1 3 5 7 9 11 1000 13 edges 0-60:6>0 0-60:6>7 letters "
                + " area " + 60 * (999 + 987));
        x.part(0, 60, 0);
        Check.same("a fork no more, it goes", x.simplify(), 7);
        Check.same("became", Reading.became(x), " 0 1 2 3 4 5 -1 6" + " -1".repeat(6));
        Check.same("the last one's time", x.time(6), 13);
    }

    private static void mattersAtThePlace() {
        Check.sentence("At each place, the nodes that MATTER there are the samples and the forks there");
        // 3 is a fork at place 0 alone, 4 is one everywhere.
        LineageTables x = Make.nodes(3, 0, 0, 0, 5, 9);
        x.join(0, 60, 3, 0);
        x.join(0, 1, 3, 1);
        x.join(0, 60, 4, 3);
        x.join(1, 60, 4, 1);
        x.join(0, 60, 4, 2);
        Check.same("nodes that stay", x.simplify(), 5);
        Check.same("edges", Reading.edges(x), "0-1:3>0 0-1:3>1 1-60:4>0 1-60:4>1 0-60:4>2 0-1:4>3");
    }

    private static void nearestThatMatters() {
        Check.sentence("the new parent of one that matters is the nearest node above it there that matters there");
        LineageTables chain = new LineageTables();
        for (int n = 0; n < 14; n++) {
            chain.node(n, n == 0 || n == 6 || n == 13);
        }
        for (int n = 0; n < 13; n++) {
            chain.join(0, 60, n + 1, n);
        }
        Check.same("nodes that stay", chain.simplify(), 3);
        Check.same("the nearer of two samples above", Reading.edges(chain), "0-60:1>0 0-60:2>1");
        LineageTables forks = Make.nodes(3, 0, 0, 0, 1, 2, 3, 4);
        forks.join(0, 60, 3, 0);
        forks.join(0, 60, 4, 3);
        forks.join(0, 60, 4, 1);
        forks.join(0, 60, 5, 4);
        forks.join(0, 60, 6, 5);
        forks.join(0, 60, 6, 2);
        Check.same("two forks stay", forks.simplify(), 5);
        Check.same("the nearer of two forks above", Reading.edges(forks), "0-60:3>0 0-60:3>1 0-60:4>2 0-60:4>3");
    }

    private static void noneThatMatters() {
        Check.sentence("if there is any");
        LineageTables x = Make.longestChain(false);
        Check.same("the one sample below thirteen", x.simplify(), 1);
        Check.same("has no parent", x.count(2), 0);
        LineageTables top = Make.nodes(2, 0, 0, 5, 9);
        top.join(0, 60, 2, 0);
        top.join(0, 60, 2, 1);
        top.join(0, 60, 3, 2);
        top.simplify();
        Check.same("the fork below one that goes", top.parent(0, 2), NONE);
    }

    private static void othersHaveNoParent() {
        Check.sentence("all others have no parent there");
        LineageTables x = Make.nodes(3, 0, 0, 0, 5, 9);
        x.join(59, 60, 3, 0);
        x.join(59, 60, 3, 1);
        x.join(0, 60, 4, 3);
        x.join(0, 60, 4, 2);
        Check.same("nodes that stay", x.simplify(), 5);
        Check.same("where it is no fork", x.parent(58, 3), NONE);
        Check.same("where it is one", x.parent(59, 3), 4);
        Check.same("edges", Reading.edges(x), "59-60:3>0 59-60:3>1 59-60:4>2 59-60:4>3");
    }

    private static void sitesStay() {
        Check.sentence("Sites stay.");
        LineageTables x = Make.nodes(0, 0);
        for (int site = 0; site < 8; site++) {
            x.site(59 - site, site % 4);
        }
        x.simplify();
        Check.same("all eight", x.count(3), 8);
        x.node(0, true);
        Check.same("with their letters", Reading.letters(x), "0 1 2 3 0 1 2 3");
        x.node(5, false);
        x.mutate(0, 1, 2);
        x.mutate(7, 1, 1);
        x.join(59, 60, 1, 0);
        Check.same("the first with its place", x.letter(0, 0), 2);
        Check.same("the last not there", x.letter(7, 0), 3);
        x.join(52, 53, 1, 0);
        Check.same("the last with its place", x.letter(7, 0), 1);
    }

    private static void mutationOfOneNotLive() {
        Check.sentence("A mutation goes when its node is not live at the site's place.");
        LineageTables x = Make.nodes(2, 0, 0, 5, 9);
        x.join(0, 30, 2, 0);
        x.join(0, 30, 2, 1);
        x.site(29, 0);
        x.site(30, 0);
        x.mutate(0, 2, 1);
        x.mutate(1, 2, 1);
        x.mutate(0, 3, 1);
        Check.same("nodes that stay", x.simplify(), 3);
        Check.same("mutations", x.count(4), 1);
        Check.same("where it is live", x.mutate(0, 2, -1), 1);
        Check.same("where it is not, though it stays", x.mutate(1, 2, -1), NONE);
    }

    private static void mutationStaysAtItsNode() {
        Check.sentence("it goes over to the highest of those that are at its node or below it there and matter there");
        LineageTables x = Make.fullOfMutations();
        x.join(0, 60, 13, 0);
        x.simplify();
        Check.same("those of samples stay", x.count(4), 112);
        for (int site = 0; site < 8; site++) {
            for (int n = 0; n < 14; n++) {
                Check.same("mutate(" + site + ", " + n + ", -1)", x.mutate(site, n, -1), (site + n) % 4);
            }
        }
    }

    private static void mutationGoesToTheHighest() {
        Check.sentence("the highest of those that are at its node or below it there and matter there");
        LineageTables x = Make.nodes(3, 0, 0, 0, 5, 9, 11, 13);
        x.join(0, 60, 3, 0);
        x.join(0, 60, 3, 1);
        x.join(0, 60, 4, 3);
        x.join(0, 60, 4, 2);
        x.join(0, 60, 5, 4);
        x.join(0, 60, 6, 5);
        x.site(0, 0);
        x.site(59, 0);
        x.mutate(0, 6, 1);
        x.mutate(1, 4, 2);
        x.mutate(1, 3, 3);
        Check.same("nodes that stay", x.simplify(), 5);
        Check.same("mutations", x.count(4), 3);
        Check.same("from the top to the higher fork", x.mutate(0, 4, -1), 1);
        Check.same("of the higher fork", x.mutate(1, 4, -1), 2);
        Check.same("of the lower fork", x.mutate(1, 3, -1), 3);
    }

    private static void mutationGoesToOneBelow() {
        Check.sentence("the highest of those that are at its node or below it there and matter there");
        LineageTables x = Make.longestChain(false);
        for (int site = 0; site < 8; site++) {
            x.site(site, 0);
            x.mutate(site, 6 + site, 1 + site % 3);
        }
        Check.same("the sample stays", x.simplify(), 1);
        Check.same("with all mutations", x.count(4), 8);
        Check.same("letters", Reading.letters(x), "1 2 3 1 2 3 1 2");
        // A fork at place 0 alone: at place 1 its mutation goes to the one sample below it.
        LineageTables fork = Make.nodes(2, 0, 0, 5);
        fork.join(0, 60, 2, 0);
        fork.join(0, 1, 2, 1);
        fork.site(0, 0);
        fork.site(1, 0);
        fork.mutate(0, 2, 1);
        fork.mutate(1, 2, 2);
        fork.simplify();
        Check.same("at the fork", fork.mutate(0, 2, -1), 1);
        Check.same("below it", fork.mutate(1, 0, -1), 2);
        Check.same("and no more", fork.count(4), 0);
    }

    private static void lowestOfSeveral() {
        Check.sentence("where several come to one node, that counts whose old node was the lowest");
        for (int lowest = 0; lowest < 14; lowest++) {
            LineageTables x = Make.longestChain(false);
            x.site(59, 0);
            for (int n = 13; n >= lowest; n--) {
                x.mutate(0, n, n == lowest ? 3 : n % 3);
            }
            x.simplify();
            Check.same("mutations", x.count(4), 1);
            Check.same("that of node " + lowest, x.mutate(0, 0, -1), 3);
        }
    }

    private static void lowestByPlaceNotNumber() {
        Check.sentence("where several come to one node, that counts whose old node was the lowest");
        LineageTables x = new LineageTables();
        for (int n = 0; n < 14; n++) {
            x.node(13 - n, n == 13);
        }
        for (int n = 1; n < 14; n++) {
            x.join(0, 60, n - 1, n);
        }
        x.site(0, 3);
        x.site(1, 0);
        x.mutate(0, 0, 1);
        x.mutate(0, 6, 2);
        x.mutate(0, 12, 3);
        x.mutate(1, 12, 2);
        x.mutate(1, 13, 1);
        Check.same("the sample stays", x.simplify(), 1);
        Check.same("the lowest, though of the ancestral letter", x.mutate(0, 0, -1), 3);
        Check.same("its own", x.mutate(1, 0, -1), 1);
    }

    private static void promise18HowManyStay() {
        Check.sentence("18: Makes smaller. Answers how many nodes stay.");
        LineageTables x = Make.threeSamples();
        Check.same("five of six", x.simplify(), 5);
        Check.same("nodes then", x.count(0), 5);
        Check.same("five of five", x.simplify(), 5);
        LineageTables full = Make.fullOfMutations();
        String before = Reading.of(full);
        Check.same("fourteen of fourteen", full.simplify(), 14);
        Check.same("all as it was", Reading.of(full), before);
    }

    private static void promise18WithoutSamples() {
        Check.sentence("18: (Without samples none; sites stay.)");
        LineageTables x = new LineageTables();
        for (int n = 0; n < 14; n++) {
            x.node(n == 13 ? 1000 : n, false);
        }
        for (int n = 0; n < 13; n++) {
            x.join(0, 60, 13, n);
        }
        for (int site = 0; site < 8; site++) {
            x.site(site, 3);
            x.mutate(site, site, 1);
        }
        Check.same("none", x.simplify(), 0);
        Check.same("what is left", Reading.of(x), "0 0 0 8 0 times edges  letters " + " ".repeat(7) + " area 0");
        Check.same("became", Reading.became(x), " -1".repeat(14));
        Check.same("once more none", x.simplify(), 0);
        Check.same("sites still", x.count(3), 8);
    }

    private static void promise18Nothing() {
        Check.sentence("18: (Without samples none; sites stay.)");
        LineageTables x = new LineageTables();
        Check.same("of a new object", x.simplify(), 0);
        Check.same("what is left", Reading.of(x), "0 0 0 0 0 times edges  letters  area 0");
        Check.same("trees", Reading.cuts(x), "0 60");
        Check.same("the first node", x.node(0, true), 0);
        Check.same("the first site", x.site(0, 0), 0);
    }

    private static void promise18AddedAfter() {
        Check.sentence("18: Makes smaller.");
        LineageTables x = Make.longestChain(true);
        for (int site = 0; site < 8; site++) {
            x.site(site, 0);
            x.mutate(site, 13, 1);
            x.mutate(site, 5, 2);
        }
        x.simplify();
        for (int n = 2; n < 14; n++) {
            Check.same("a node where one was", x.node(1000, false), n);
            Check.same("has no parent", x.parent(0, n), NONE);
            Check.same("nor at the last place", x.parent(59, n), NONE);
            Check.same("has no mutation", x.mutate(0, n, -1), NONE);
            Check.same("nor at the last site", x.mutate(7, n, -1), NONE);
        }
        Check.same("mutations", x.count(4), 16);
        Check.same("samples", x.count(1), 2);
    }

    private static void promise19NumberGot() {
        Check.sentence("19: The number that a node, by its number before the latest making smaller, has got by it");
        LineageTables x = everyOther();
        x.simplify();
        Check.same("the first that stays", x.became(1), 0);
        Check.same("the fork", x.became(12), 6);
        Check.same("the last", x.became(13), 7);
    }

    private static void promise19Went() {
        Check.sentence("19: NONE when it went");
        LineageTables x = everyOther();
        x.simplify();
        Check.same("the first", x.became(0), NONE);
        Check.same("one whose number another has got", x.became(4), NONE);
        Check.same("the one before the fork", x.became(10), NONE);
    }

    private static void promise19NoSuchNode() {
        Check.sentence("19: or there was no such node");
        LineageTables x = Make.nodes(3, 0, 0, 0);
        x.simplify();
        Check.same("became", Reading.became(x), " 0 1 2" + " -1".repeat(11));
        Check.same("became(-1)", x.became(-1), NONE);
        Check.same("became(14)", x.became(14), NONE);
        Check.same("became(15)", x.became(15), NONE);
        Check.same("became of the least number", x.became(Integer.MIN_VALUE), NONE);
        Check.same("became of the greatest number", x.became(Integer.MAX_VALUE), NONE);
    }

    private static void promise19NoneMade() {
        Check.sentence("19: or none was made");
        LineageTables x = everyOther();
        Check.same("became", Reading.became(x), " -1".repeat(14));
        Check.same("became(-1)", x.became(-1), NONE);
        Check.same("became(14)", x.became(14), NONE);
    }

    private static void promise19Latest() {
        Check.sentence("19: by its number before the latest making smaller");
        LineageTables x = everyOther();
        x.simplify();
        x.simplify();
        Check.same("by the second", Reading.became(x), " 0 1 2 3 4 5 6 7" + " -1".repeat(6));
        x.part(0, 60, 0);
        x.simplify();
        Check.same("by the third", Reading.became(x), " 0 1 2 3 4 5 -1 6" + " -1".repeat(6));
    }

    private static void promise19LaterNodes() {
        Check.sentence("19: (Nodes that come later change nothing of it.)");
        LineageTables x = everyOther();
        x.simplify();
        String before = Reading.became(x);
        for (int n = 8; n < 14; n++) {
            x.node(0, true);
        }
        Check.same("became when it is full again", Reading.became(x), before);
        LineageTables empty = new LineageTables();
        empty.simplify();
        empty.node(0, true);
        Check.same("a node that came after it", empty.became(0), NONE);
    }

    private static void promise19OtherCalls() {
        Check.sentence("19: The number that a node has got by the latest making smaller");
        LineageTables x = everyOther();
        x.simplify();
        String before = Reading.became(x);
        x.join(0, 60, 7, 1);
        x.part(0, 60, 0);
        x.site(0, 0);
        x.mutate(0, 0, 1);
        Check.outcome(() -> x.node(1001, true));
        Check.outcome(() -> x.join(0, 60, 0, 7));
        Check.same("became after other calls", Reading.became(x), before);
    }
}
