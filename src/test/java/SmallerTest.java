/** Promises 18 and 19: making smaller, and what became of the nodes. */
public final class SmallerTest {
    private static final int NONE = LineageTables.NONE;

    private SmallerTest() {
    }

    public static void main(String[] args) {
        promise18WithoutSamples();
        promise18NodesThatStay();
        promise18ParentsByPlace();
        promise18DeadChildren();
        promise18MutationsGoOver();
        promise18LowestMutationCounts();
        promise18MutationsGo();
        promise18LongestChain();
        promise18Twice();
        promise18KeepsWhatSamplesHave();
        promise19Became();
        promise19BecameOfTheLatest();
        Check.end();
    }

    private static void promise18WithoutSamples() {
        LineageTables x = Make.nodes(0, 0, 0, 5);
        Check.same("of nothing", new LineageTables().simplify(), 0);
        x.join(0, 60, 2, 0);
        x.join(0, 60, 2, 1);
        x.site(3, 1);
        x.mutate(0, 2, 3);
        Check.same("without samples", x.simplify(), 0);
        Check.same("what is left", Reading.of(x), "0 0 0 1 0 times edges  letters  area 0");
        Check.same("the place of the site stays taken", Check.outcome(() -> x.site(3, 0)),
                "throws.IllegalArgumentException");
        x.node(4, true);
        Check.same("a new node has the ancestral letter", x.letter(0, 0), 1);
    }

    private static void promise18NodesThatStay() {
        LineageTables x = new LineageTables();
        x.node(30, false);
        x.node(0, true);
        x.node(7, false);
        x.node(5, true);
        x.node(20, false);
        x.join(0, 60, 2, 1);
        x.join(0, 60, 2, 3);
        x.join(0, 60, 4, 2);
        x.join(0, 60, 0, 4);
        Check.same("nodes that stay", x.simplify(), 3);
        Check.same("in the old order, with their times", Reading.of(x),
                "3 2 2 0 0 times 0 7 5 edges 0-60:1>0 0-60:1>2 letters  area 540");
    }

    private static void promise18ParentsByPlace() {
        LineageTables x = Make.nodes(2, 0, 0, 5, 9);
        x.join(0, 30, 2, 0);
        x.join(0, 60, 2, 1);
        x.join(10, 60, 3, 2);
        x.join(30, 40, 3, 0);
        Check.same("two that are forks at some place", x.simplify(), 4);
        Check.same("parents where they matter", Reading.edges(x), "0-30:2>0 0-30:2>1 30-40:3>0 30-40:3>1");
        LineageTables sample = Make.nodes(2, 0, 9, 4, 4);
        sample.join(0, 20, 2, 0);
        sample.join(20, 60, 3, 0);
        sample.join(0, 60, 1, 2);
        sample.join(0, 60, 1, 3);
        Check.same("a sample above by two ways", sample.simplify(), 2);
        Check.same("is one edge then", Reading.edges(sample), "0-60:1>0");
    }

    private static void promise18DeadChildren() {
        LineageTables x = Make.nodes(2, 0, 0, 5, 5, 9, 12);
        x.join(0, 60, 4, 0);
        x.join(0, 60, 4, 2);
        x.join(0, 60, 5, 4);
        x.join(0, 60, 5, 3);
        Check.same("no forks by children that are not live", x.simplify(), 2);
        Check.same("no parents then", x.count(2), 0);
        LineageTables own = Make.nodes(2, 0, 5, 9);
        own.join(0, 60, 1, 0);
        own.join(0, 60, 2, 1);
        Check.same("a sample stays without a fork", own.simplify(), 2);
        Check.same("with its child", Reading.edges(own), "0-60:1>0");
    }

    private static void promise18MutationsGoOver() {
        LineageTables x = Make.nodes(2, 0, 0, 5, 6, 7);
        x.join(0, 60, 2, 0);
        x.join(0, 60, 3, 2);
        x.join(0, 60, 4, 3);
        x.join(0, 30, 4, 1);
        x.site(10, 0);
        x.site(40, 0);
        x.mutate(0, 3, 1);
        x.mutate(0, 4, 2);
        x.mutate(1, 4, 3);
        Check.same("nodes that stay", x.simplify(), 3);
        Check.same("mutations", x.count(4), 3);
        Check.same("of the fork, at its place", x.mutate(0, 2, -1), 2);
        Check.same("of one that goes, at the sample", x.mutate(0, 0, -1), 1);
        Check.same("of the fork where it is none", x.mutate(1, 0, -1), 3);
        Check.same("mutations at last", x.count(4), 0);
    }

    private static void promise18LowestMutationCounts() {
        LineageTables x = Make.nodes(1, 0, 9, 3, 6);
        x.join(0, 60, 2, 0);
        x.join(0, 60, 3, 2);
        x.join(0, 60, 1, 3);
        x.site(0, 0);
        x.site(1, 0);
        x.site(2, 0);
        x.mutate(0, 1, 1);
        x.mutate(0, 2, 2);
        x.mutate(0, 3, 3);
        x.mutate(1, 1, 1);
        x.mutate(1, 3, 0);
        x.mutate(2, 0, 2);
        x.mutate(2, 2, 3);
        Check.same("nodes that stay", x.simplify(), 1);
        Check.same("mutations", x.count(4), 3);
        Check.same("the lowest of three", x.mutate(0, 0, -1), 2);
        Check.same("one to the ancestral letter", x.mutate(1, 0, -1), 0);
        Check.same("its own", x.mutate(2, 0, -1), 2);
    }

    private static void promise18MutationsGo() {
        LineageTables x = Make.nodes(2, 0, 0, 5, 9, 0);
        x.join(0, 30, 2, 0);
        x.join(0, 30, 2, 1);
        x.join(0, 60, 3, 2);
        x.join(0, 60, 2, 4);
        x.site(35, 0);
        x.site(29, 0);
        x.mutate(0, 2, 3);
        x.mutate(0, 3, 2);
        x.mutate(1, 4, 2);
        x.mutate(1, 3, 1);
        Check.same("nodes that stay", x.simplify(), 3);
        Check.same("mutations", x.count(4), 1);
        Check.same("letters", Reading.letters(x), "000 111");
        Check.same("the one that stays", x.mutate(1, 2, -1), 1);
    }

    private static void promise18LongestChain() {
        LineageTables x = Make.longestChain(false);
        x.site(59, 0);
        x.mutate(0, 13, 2);
        Check.same("the sample alone", x.simplify(), 1);
        Check.same("has it from the top", x.mutate(0, 0, -1), 2);
        LineageTables tops = Make.longestChain(true);
        tops.site(59, 0);
        tops.mutate(0, 12, 3);
        Check.same("a sample at the bottom and one on top", tops.simplify(), 2);
        Check.same("are joined", Reading.edges(tops), "0-60:1>0");
        Check.same("and the mutation goes to the lower", Reading.letters(tops), "30");
    }

    private static void promise18Twice() {
        LineageTables x = Make.threeSamples();
        x.site(15, 0);
        x.mutate(0, 5, 2);
        x.simplify();
        String once = Reading.of(x);
        Check.same("once more", x.simplify(), 5);
        Check.same("changes nothing", Reading.of(x), once);
        x.node(40, false);
        x.join(0, 60, 5, 4);
        Check.same("a new node above goes again", x.simplify(), 5);
        Check.same("and changes nothing", Reading.of(x), once);
    }

    private static void promise18KeepsWhatSamplesHave() {
        LineageTables x = Make.threeSamples();
        x.site(12, 0);
        x.site(40, 2);
        x.mutate(0, 5, 1);
        x.mutate(1, 4, 3);
        x.mutate(1, 1, 2);
        int area = x.area();
        int differing = x.differing();
        Check.same("nodes that stay", x.simplify(), 5);
        Check.same("letters", Reading.letters(x), "11111 32323");
        Check.same("area", x.area(), area);
        Check.same("differing", x.differing(), differing);
        Check.same("cuts", Reading.cuts(x), "0 30 60");
    }

    private static void promise19Became() {
        LineageTables x = new LineageTables();
        x.node(30, false);
        x.node(0, true);
        x.node(7, false);
        x.node(5, true);
        x.join(0, 1, 2, 1);
        x.join(0, 1, 2, 3);
        Check.same("became(1) when none was made", x.became(1), NONE);
        x.simplify();
        Check.same("one that went", x.became(0), NONE);
        Check.same("the first that stays", x.became(1), 0);
        Check.same("a fork at one place", x.became(2), 1);
        Check.same("the last", x.became(3), 2);
        Check.same("no such node", x.became(4), NONE);
        Check.same("became(-1)", x.became(-1), NONE);
        Check.same("became(14)", x.became(14), NONE);
        Check.same("became(" + Integer.MAX_VALUE + ")", x.became(Integer.MAX_VALUE), NONE);
        Check.same("became(" + Integer.MIN_VALUE + ")", x.became(Integer.MIN_VALUE), NONE);
        x.node(3, true);
        x.node(3, true);
        Check.same("a later node changes nothing", x.became(3), 2);
        Check.same("nor at a number that none had", x.became(4), NONE);
    }

    private static void promise19BecameOfTheLatest() {
        LineageTables x = Make.nodes(0, 3);
        for (int n = 1; n < 14; n++) {
            x.node(0, true);
        }
        x.simplify();
        Check.same("became(13)", x.became(13), 12);
        x.simplify();
        Check.same("became(13) by the next", x.became(13), NONE);
        Check.same("became(0) by the next", x.became(0), 0);
        Check.same("became(12) by the next", x.became(12), 12);
    }
}
