/** Promises 15 to 17: a test for each sentence that names a boundary. */
public final class SumsBoundaryTest {
    private SumsBoundaryTest() {
    }

    public static void main(String[] args) {
        promise15OverAllSites();
        promise15Pairs();
        promise15Samples();
        promise16JustK();
        promise16NotTheAncestral();
        promise16BelowOne();
        promise16AboveAll();
        promise17AllPlaces();
        promise17HaveAParent();
        promise17AreLive();
        promise17NotEverySample();
        promise17LessTheirOwn();
        Check.end();
    }

    /** All fourteen are samples without parents; at each of the sites, from place 0 on, the ancestral letter is 0. */
    private static LineageTables samples(int sites) {
        LineageTables x = new LineageTables();
        for (int n = 0; n < 14; n++) {
            x.node(0, true);
        }
        for (int site = 0; site < sites; site++) {
            x.site(site, 0);
        }
        return x;
    }

    private static void promise15OverAllSites() {
        Check.sentence("15: The sum, over all sites");
        LineageTables x = samples(8);
        for (int site = 0; site < 8; site++) {
            x.mutate(site, site, 1);
            Check.same("one of fourteen at " + (site + 1) + " sites", x.differing(), 13 * (site + 1));
        }
        Check.same("without sites", samples(0).differing(), 0);
    }

    private static void promise15Pairs() {
        Check.sentence("15: of how many pairs of samples have different letters there");
        LineageTables x = samples(1);
        Check.same("all the same", x.differing(), 0);
        for (int n = 0; n < 14; n++) {
            x.mutate(0, n, 3);
            Check.same(n + 1 + " against the rest", x.differing(), (n + 1) * (13 - n));
        }
        for (int n = 0; n < 14; n++) {
            x.mutate(0, n, n % 4);
        }
        // Of 91 pairs, those among 4, 4, 3 and 3 with one letter are 6, 6, 3 and 3.
        Check.same("of all four letters", x.differing(), 91 - 18);
    }

    private static void promise15Samples() {
        Check.sentence("15: of how many pairs of samples have different letters there");
        LineageTables none = Make.nodes(0, 0, 0);
        none.site(0, 0);
        none.mutate(0, 1, 1);
        Check.same("two that are no samples", none.differing(), 0);
        LineageTables one = Make.nodes(1, 0, 0);
        one.site(0, 0);
        one.mutate(0, 1, 1);
        Check.same("one that is", one.differing(), 0);
        LineageTables two = Make.nodes(2, 0, 0, 0);
        two.site(0, 0);
        two.mutate(0, 1, 1);
        Check.same("two that are", two.differing(), 1);
        two.mutate(0, 0, 1);
        Check.same("by two mutations the same", two.differing(), 0);
    }

    private static void promise16JustK() {
        Check.sentence("16: such that just k samples have it there");
        LineageTables x = samples(1);
        for (int n = 0; n < 14; n++) {
            x.mutate(0, n, 2);
            Check.same("had by one less", x.spectrum(n), 0);
            Check.same("had by " + (n + 1), x.spectrum(n + 1), 1);
            Check.same("had by one more", x.spectrum(n + 2), 0);
        }
        LineageTables none = Make.nodes(1, 0, 0);
        none.site(0, 0);
        none.mutate(0, 1, 1);
        Check.same("had by one that is no sample", none.spectrum(1), 0);
    }

    private static void promise16NotTheAncestral() {
        Check.sentence("16: How many pairs of a site and a letter that is not its ancestral one there are");
        LineageTables x = Make.nodes(4, 0, 0, 0, 0);
        for (int site = 0; site < 4; site++) {
            x.site(site, site);
            Check.same("the ancestral letter alone", x.spectrum(4), 0);
            for (int n = 0; n < 4; n++) {
                x.mutate(site, n, n);
            }
            Check.same("three of four letters at " + (site + 1) + " sites", x.spectrum(1), 3 * (site + 1));
            for (int n = 0; n < 4; n++) {
                x.mutate(site, n, site);
            }
            Check.same("mutations to the ancestral letter", x.spectrum(4), 0);
            for (int n = 0; n < 4; n++) {
                x.mutate(site, n, n);
            }
        }
    }

    private static void promise16BelowOne() {
        Check.sentence("16: 0 when k is below 1.");
        LineageTables x = samples(8);
        x.mutate(0, 0, 1);
        Check.same("spectrum(1)", x.spectrum(1), 1);
        Check.same("spectrum(0), though no sample has most letters", x.spectrum(0), 0);
        Check.same("spectrum(-1)", x.spectrum(-1), 0);
        Check.same("spectrum of the least number", x.spectrum(Integer.MIN_VALUE), 0);
        LineageTables none = Make.nodes(0, 0);
        none.site(0, 0);
        Check.same("spectrum(0) without samples", none.spectrum(0), 0);
    }

    private static void promise16AboveAll() {
        Check.sentence("16: such that just k samples have it there");
        LineageTables x = samples(8);
        for (int site = 0; site < 8; site++) {
            for (int n = 0; n < 14; n++) {
                x.mutate(site, n, 3);
            }
        }
        Check.same("had by all at all sites", x.spectrum(14), 8);
        Check.same("had by more than there are", x.spectrum(15), 0);
        Check.same("had by the greatest number", x.spectrum(Integer.MAX_VALUE), 0);
        Check.same("without samples", new LineageTables().spectrum(1), 0);
    }

    private static void promise17AllPlaces() {
        Check.sentence("17: The sum, over all places and all nodes");
        LineageTables x = Make.nodes(2, 0, 0, 7);
        x.join(0, 1, 2, 0);
        Check.same("the first place", x.area(), 7);
        x.join(59, 60, 2, 0);
        Check.same("the last place too", x.area(), 14);
        x.join(1, 59, 2, 0);
        Check.same("all places", x.area(), 420);
        LineageTables most = new LineageTables();
        for (int n = 0; n < 13; n++) {
            most.node(0, true);
        }
        most.node(1000, false);
        for (int n = 0; n < 13; n++) {
            most.join(0, 60, 13, n);
        }
        Check.same("as much as can be", most.area(), 13 * 60 * 1000);
    }

    private static void promise17HaveAParent() {
        Check.sentence("17: that have a parent there");
        LineageTables x = Make.nodes(2, 0, 1000, 1000);
        Check.same("none has", x.area(), 0);
        x.join(0, 60, 2, 0);
        x.part(1, 60, 0);
        Check.same("one has at one place", x.area(), 1000);
        x.part(0, 1, 0);
        Check.same("none has any more", x.area(), 0);
    }

    private static void promise17AreLive() {
        Check.sentence("17: and are live there");
        LineageTables x = Make.nodes(2, 0, 0, 5, 9);
        x.join(0, 60, 3, 2);
        Check.same("none below it is a sample", x.area(), 0);
        x.join(30, 31, 2, 0);
        Check.same("one is at one place", x.area(), 5 + 4);
    }

    private static void promise17NotEverySample() {
        Check.sentence("17: though not every sample is they or below them");
        LineageTables x = Make.nodes(3, 0, 0, 5, 5, 9);
        x.join(0, 60, 3, 0);
        x.join(0, 60, 3, 1);
        x.join(0, 60, 4, 3);
        Check.same("two of three are below it", x.area(), (5 + 5 + 4) * 60);
        LineageTables all = Make.nodes(2, 0, 0, 5, 5, 9);
        all.join(0, 60, 3, 0);
        all.join(0, 60, 3, 1);
        all.join(0, 60, 4, 3);
        Check.same("both are below it", all.area(), (5 + 5) * 60);
        all.part(59, 60, 1);
        Check.same("but at the last place", all.area(), (5 + 5) * 59 + 5 + 4);
        LineageTables itself = Make.nodes(2, 0, 5, 9);
        itself.join(0, 60, 1, 0);
        itself.join(0, 60, 2, 1);
        Check.same("one is it, one below it", itself.area(), 5 * 60);
        LineageTables one = Make.longestChain(false);
        Check.same("the one that there is", one.area(), 0);
        Check.same("with a second on top", Make.longestChain(true).area(), 13 * 60);
        Check.same("without samples", Make.nodes(0, 0, 5).area(), 0);
    }

    private static void promise17LessTheirOwn() {
        Check.sentence("17: of the parent's time less their own");
        LineageTables x = Make.nodes(2, 999, 0, 1000);
        x.join(0, 1, 2, 0);
        Check.same("the least that can be", x.area(), 1);
        x.join(0, 1, 2, 1);
        Check.same("and the most", x.area(), 1 + 1000);
    }
}
