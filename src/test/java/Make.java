/** Makes objects to begin a test with. */
final class Make {
    private Make() {
    }

    /** The first nodes are samples, the others are not. */
    static LineageTables nodes(int samples, int... times) {
        LineageTables x = new LineageTables();
        for (int i = 0; i < times.length; i++) {
            x.node(times[i], i < samples);
        }
        return x;
    }

    /**
     * Samples 0, 1, 2 of time 0; 3, 4, 5 of times 10, 20, 30. Everywhere 3 is the parent of 0, and 4 of 2 and 3;
     * 1 has 3 as its parent up to place 29 and 4 from there; 5 is the parent of 4 at the places 10 .. 19.
     */
    static LineageTables threeSamples() {
        LineageTables x = nodes(3, 0, 0, 0, 10, 20, 30);
        x.join(0, 60, 3, 0);
        x.join(0, 30, 3, 1);
        x.join(30, 60, 4, 1);
        x.join(0, 60, 4, 2);
        x.join(0, 60, 4, 3);
        x.join(10, 20, 5, 4);
        return x;
    }

    /** Fourteen nodes, each at all places the parent of the one before it; the first is a sample. */
    static LineageTables longestChain(boolean isSampleOnTop) {
        LineageTables x = new LineageTables();
        for (int n = 0; n < 14; n++) {
            x.node(n, n == 0 || n == 13 && isSampleOnTop);
        }
        for (int n = 0; n < 13; n++) {
            x.join(0, 60, n + 1, n);
        }
        return x;
    }

    /** Fourteen nodes without parents and eight sites, and for each node and site a mutation. */
    static LineageTables fullOfMutations() {
        LineageTables x = new LineageTables();
        for (int n = 0; n < 14; n++) {
            x.node(n, true);
        }
        for (int site = 0; site < 8; site++) {
            x.site(site * 8, site % 4);
            for (int n = 0; n < 14; n++) {
                x.mutate(site, n, (site + n) % 4);
            }
        }
        return x;
    }
}
