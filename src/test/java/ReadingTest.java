/** Promises 7 to 14: what is read of nodes, edges, trees and letters. */
public final class ReadingTest {
    private ReadingTest() {
    }

    public static void main(String[] args) {
        promise7Count();
        promise8Time();
        promise9Edge();
        promise9EdgeOrder();
        promise10Parent();
        promise11Meet();
        promise12And13Runs();
        promise14Letter();
        Check.end();
    }

    private static void promise7Count() {
        LineageTables x = Make.threeSamples();
        x.site(5, 0);
        x.site(6, 0);
        x.mutate(1, 0, 1);
        x.mutate(1, 5, 0);
        x.mutate(0, 5, 3);
        Check.same("nodes", x.count(0), 6);
        Check.same("samples", x.count(1), 3);
        Check.same("edges", x.count(2), 6);
        Check.same("sites", x.count(3), 2);
        Check.same("mutations", x.count(4), 3);
        Check.same("count(5)", x.count(5), LineageTables.NONE);
        Check.same("count(-1)", x.count(-1), LineageTables.NONE);
        x.part(20, 40, 1);
        x.part(30, 31, 0);
        Check.same("edges with gaps", x.count(2), 7);
    }

    private static void promise8Time() {
        LineageTables x = Make.nodes(1, 1000, 0, 7);
        Check.same("time(0)", x.time(0), 1000);
        Check.same("time(1)", x.time(1), 0);
        Check.same("time(2)", x.time(2), 7);
    }

    private static void promise9Edge() {
        LineageTables x = Make.threeSamples();
        Check.same("left", x.edge(2, 0), 30);
        Check.same("right", x.edge(2, 1), 60);
        Check.same("the parent", x.edge(2, 2), 4);
        Check.same("the child", x.edge(2, 3), 1);
        LineageTables runs = Make.nodes(0, 0, 1, 2);
        runs.join(30, 40, 1, 0);
        runs.join(20, 30, 1, 0);
        runs.join(0, 20, 2, 0);
        Check.same("runs as long as can be", Reading.edges(runs), "20-40:1>0 0-20:2>0");
    }

    private static void promise9EdgeOrder() {
        LineageTables x = Make.nodes(0, 9, 4, 4, 0, 0);
        x.join(50, 60, 0, 3);
        x.join(0, 10, 0, 3);
        x.join(20, 30, 2, 3);
        x.join(30, 40, 1, 3);
        x.join(0, 60, 1, 4);
        x.join(0, 5, 0, 2);
        Check.same("edges by parent's time, parent, child, left", Reading.edges(x),
                "30-40:1>3 0-60:1>4 20-30:2>3 0-5:0>2 0-10:0>3 50-60:0>3");
    }

    private static void promise10Parent() {
        LineageTables x = Make.threeSamples();
        Check.same("parent(9, 4)", x.parent(9, 4), LineageTables.NONE);
        Check.same("parent(10, 4)", x.parent(10, 4), 5);
        Check.same("parent(19, 4)", x.parent(19, 4), 5);
        Check.same("parent(20, 4)", x.parent(20, 4), LineageTables.NONE);
        Check.same("parent(29, 1)", x.parent(29, 1), 3);
        Check.same("parent(59, 1)", x.parent(59, 1), 4);
        Check.same("parent(0, 5)", x.parent(0, 5), LineageTables.NONE);
    }

    private static void promise11Meet() {
        LineageTables x = Make.threeSamples();
        Check.same("two children", x.meet(29, 0, 1), 3);
        Check.same("elsewhere", x.meet(30, 0, 1), 4);
        Check.same("a node and itself", x.meet(30, 1, 1), 1);
        Check.same("a node and one above it", x.meet(30, 0, 4), 4);
        Check.same("a node and one below it", x.meet(15, 5, 0), 5);
        Check.same("not in one tree", x.meet(20, 5, 0), LineageTables.NONE);
        x.part(0, 60, 2);
        Check.same("not in one tree any more", x.meet(0, 2, 0), LineageTables.NONE);
        LineageTables chain = Make.longestChain(false);
        Check.same("up the longest chain", chain.meet(3, 0, 13), 13);
        Check.same("up it from the other", chain.meet(3, 13, 0), 13);
    }

    private static void promise12And13Runs() {
        LineageTables x = Make.threeSamples();
        Check.same("trees", x.trees(), 4);
        Check.same("cuts", Reading.cuts(x), "0 10 20 30 60");
        x.join(59, 60, 5, 4);
        Check.same("cuts with the last place", Reading.cuts(x), "0 10 20 30 59 60");
        x.part(0, 1, 0);
        Check.same("cuts with the first place", Reading.cuts(x), "0 1 10 20 30 59 60");
        LineageTables all = Make.nodes(1, 0, 5);
        Check.same("trees without edges", all.trees(), 1);
        all.join(0, 60, 1, 0);
        Check.same("trees with one edge for all", all.trees(), 1);
        for (int place = 0; place < 60; place += 2) {
            all.part(place, place + 1, 0);
        }
        Check.same("as many trees as places", all.trees(), 60);
        Check.same("cut(59)", all.cut(59), 59);
        Check.same("cut(60)", all.cut(60), 60);
        Check.same("cut(61)", Check.outcome(() -> all.cut(61)), "throws.IndexOutOfBoundsException");
    }

    private static void promise14Letter() {
        LineageTables x = Make.threeSamples();
        x.site(35, 2);
        x.site(15, 1);
        Check.same("without mutations", Reading.letters(x), "222222 111111");
        x.mutate(0, 4, 0);
        x.mutate(0, 3, 3);
        x.mutate(1, 5, 0);
        x.mutate(1, 1, 2);
        x.mutate(0, 5, 1);
        Check.same("with mutations", Reading.letters(x), "300301 020000");
        LineageTables chain = Make.longestChain(false);
        chain.site(3, 0);
        chain.mutate(0, 13, 2);
        Check.same("down the longest chain", Reading.letters(chain), "22222222222222");
    }
}
