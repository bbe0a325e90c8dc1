/** Promises 1 to 6: what builds an object up. */
public final class BuildingTest {
    private BuildingTest() {
    }

    public static void main(String[] args) {
        promise1NewObject();
        promise2Node();
        promise3Join();
        promise4Part();
        promise5Site();
        promise6Mutate();
        Check.end();
    }

    private static void promise1NewObject() {
        LineageTables x = new LineageTables();
        Check.same("a new object", Reading.of(x), "0 0 0 0 0 times edges  letters  area 0");
        Check.same("its cuts", Reading.cuts(x), "0 60");
        Check.same("its became(0)", x.became(0), LineageTables.NONE);
        LineageTables other = new LineageTables();
        x.node(3, true);
        Check.same("nodes of another object", other.count(0), 0);
    }

    private static void promise2Node() {
        LineageTables x = new LineageTables();
        Check.same("the first node", x.node(0, true), 0);
        Check.same("a node of time 1000", x.node(1000, false), 1);
        Check.same("samples", x.count(1), 1);
        Check.same("time(1)", x.time(1), 1000);
        for (int i = 2; i < 14; i++) {
            Check.same("node " + i, x.node(5, false), i);
        }
        x.simplify();
        Check.same("nodes when most are gone", x.count(0), 1);
        Check.same("a node where others were", x.node(7, false), 1);
        Check.same("its parent", x.parent(0, 1), LineageTables.NONE);
    }

    private static void promise3Join() {
        LineageTables x = Make.nodes(0, 0, 5, 6, 6);
        Check.same("join at all places", x.join(0, 60, 1, 0), 60);
        Check.same("join where it is so", x.join(0, 60, 1, 0), 0);
        x.part(10, 20, 0);
        Check.same("join at some new places", x.join(5, 15, 1, 0), 5);
        Check.same("edges then", Reading.edges(x), "0-15:1>0 20-60:1>0");
        Check.same("join at one place", x.join(59, 60, 2, 1), 1);
        Check.same("join at the first place", x.join(0, 1, 3, 1), 1);
        Check.same("edges at last", Reading.edges(x), "0-15:1>0 20-60:1>0 59-60:2>1 0-1:3>1");
    }

    private static void promise4Part() {
        LineageTables x = Make.nodes(0, 0, 5, 6);
        Check.same("part of one that has none", x.part(0, 60, 0), 0);
        x.join(10, 20, 1, 0);
        x.join(20, 30, 2, 0);
        Check.same("part over two parents", x.part(15, 25, 0), 10);
        Check.same("edges then", Reading.edges(x), "10-15:1>0 25-30:2>0");
        Check.same("part at the first place", x.part(0, 11, 0), 1);
        Check.same("part of all", x.part(0, 60, 0), 9);
        Check.same("edges at last", x.count(2), 0);
        x.join(0, 60, 2, 1);
        Check.same("part up to the last place", x.part(59, 60, 1), 1);
    }

    private static void promise5Site() {
        LineageTables x = Make.nodes(1, 0);
        Check.same("the first site", x.site(59, 3), 0);
        Check.same("a second site", x.site(0, 0), 1);
        Check.same("letters", Reading.letters(x), "3 0");
        for (int i = 2; i < 8; i++) {
            Check.same("site " + i, x.site(i, 1), i);
        }
    }

    private static void promise6Mutate() {
        LineageTables x = Make.nodes(1, 0, 5);
        x.site(7, 2);
        Check.same("the first mutation", x.mutate(0, 0, 3), -1);
        Check.same("one in its place", x.mutate(0, 0, 0), 3);
        Check.same("mutations", x.count(4), 1);
        Check.same("the letter", x.letter(0, 0), 0);
        Check.same("one to the ancestral letter", x.mutate(0, 1, 2), -1);
        Check.same("mutations with it", x.count(4), 2);
        Check.same("none any more", x.mutate(0, 0, -1), 0);
        Check.same("none again", x.mutate(0, 0, -1), -1);
        Check.same("mutations at last", x.count(4), 1);
    }
}
