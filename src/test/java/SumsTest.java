/** Promises 15 to 17: sums over sites and places. */
public final class SumsTest {
    private SumsTest() {
    }

    public static void main(String[] args) {
        promise15Differing();
        promise16Spectrum();
        promise17Area();
        promise17AreaLeavesOut();
        Check.end();
    }

    private static void promise15Differing() {
        LineageTables x = Make.threeSamples();
        Check.same("without sites", x.differing(), 0);
        x.site(12, 0);
        x.site(40, 2);
        Check.same("without mutations", x.differing(), 0);
        x.mutate(0, 3, 1);
        Check.same("two against one", x.differing(), 2);
        x.mutate(1, 4, 3);
        x.mutate(1, 1, 1);
        x.mutate(1, 2, 0);
        Check.same("three of three kinds more", x.differing(), 5);
        x.mutate(1, 5, 1);
        Check.same("one that no sample has", x.differing(), 5);
        LineageTables none = Make.nodes(0, 0, 1);
        none.site(0, 0);
        none.mutate(0, 1, 1);
        Check.same("without samples", none.differing(), 0);
    }

    private static void promise16Spectrum() {
        LineageTables x = Make.threeSamples();
        x.site(12, 0);
        x.site(40, 2);
        x.site(50, 1);
        x.mutate(0, 3, 1);
        x.mutate(1, 4, 3);
        x.mutate(1, 1, 1);
        x.mutate(1, 2, 2);
        x.mutate(2, 4, 3);
        Check.same("had by one", x.spectrum(1), 2);
        Check.same("had by two", x.spectrum(2), 1);
        Check.same("had by three", x.spectrum(3), 1);
        Check.same("had by four", x.spectrum(4), 0);
        x.mutate(2, 0, 0);
        Check.same("had by one with letter 0", x.spectrum(1), 3);
        Check.same("spectrum(0)", x.spectrum(0), 0);
        Check.same("spectrum(-1)", x.spectrum(-1), 0);
        Check.same("spectrum(" + Integer.MIN_VALUE + ")", x.spectrum(Integer.MIN_VALUE), 0);
        Check.same("spectrum(" + Integer.MAX_VALUE + ")", x.spectrum(Integer.MAX_VALUE), 0);
    }

    private static void promise17Area() {
        LineageTables x = new LineageTables();
        Check.same("of nothing", x.area(), 0);
        LineageTables two = Make.nodes(2, 0, 3, 10);
        two.join(0, 60, 2, 0);
        Check.same("one sample of two joined", two.area(), 600);
        two.join(0, 30, 2, 1);
        Check.same("both joined at half the places", two.area(), 600 + 7 * 30);
        Check.same("three samples", Make.threeSamples().area(), 3300);
    }

    private static void promise17AreaLeavesOut() {
        LineageTables above = Make.nodes(2, 0, 0, 10, 20);
        above.join(0, 60, 2, 0);
        above.join(0, 60, 2, 1);
        above.join(0, 60, 3, 2);
        Check.same("nothing above all samples", above.area(), 1200);
        above.part(5, 6, 1);
        Check.same("above one of them", above.area(), 1200 - 10 + 10);
        LineageTables dead = Make.nodes(2, 0, 0, 10, 20, 0);
        dead.join(0, 60, 3, 2);
        dead.join(0, 60, 2, 4);
        Check.same("nothing that is not live", dead.area(), 0);
        LineageTables one = Make.nodes(1, 0, 10);
        one.join(0, 60, 1, 0);
        Check.same("nothing with one sample alone", one.area(), 0);
        LineageTables none = Make.nodes(0, 0, 10);
        none.join(0, 60, 1, 0);
        Check.same("nothing without samples", none.area(), 0);
        LineageTables within = Make.nodes(2, 0, 5, 10);
        within.join(0, 60, 1, 0);
        within.join(0, 60, 2, 1);
        Check.same("not above a sample that all samples are or are below", within.area(), 300);
    }
}
