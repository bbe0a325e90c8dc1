/** What can be read of an object, as one text; few calls, because an object has only 512. */
final class Reading {
    private Reading() {
    }

    static String of(LineageTables x) {
        StringBuilder text = new StringBuilder();
        for (int what = 0; what < 5; what++) {
            text.append(x.count(what)).append(what < 4 ? " " : " times");
        }
        int nodes = x.count(0);
        for (int n = 0; n < nodes; n++) {
            text.append(' ').append(x.time(n));
        }
        text.append(" edges ").append(edges(x)).append(" letters ").append(letters(x));
        return text.append(" area ").append(x.area()).toString();
    }

    /** All of it, and once more when it was made smaller: what a call left behind unseen may show then. */
    static String whole(LineageTables x) {
        StringBuilder text = new StringBuilder(of(x)).append(" cuts ").append(cuts(x));
        text.append(" became").append(became(x)).append(" differing ").append(x.differing()).append(" spectrum");
        for (int k = 0; k <= 14; k++) {
            text.append(' ').append(x.spectrum(k));
        }
        text.append(" smaller ").append(x.simplify()).append(' ').append(of(x));
        return text.append(" became").append(became(x)).toString();
    }

    static String became(LineageTables x) {
        StringBuilder text = new StringBuilder();
        for (int n = 0; n < 14; n++) {
            text.append(' ').append(x.became(n));
        }
        return text.toString();
    }

    /** Every edge in order, written left-right:parent>child. */
    static String edges(LineageTables x) {
        StringBuilder text = new StringBuilder();
        int edges = x.count(2);
        for (int i = 0; i < edges; i++) {
            text.append(i == 0 ? "" : " ").append(x.edge(i, 0)).append('-').append(x.edge(i, 1));
            text.append(':').append(x.edge(i, 2)).append('>').append(x.edge(i, 3));
        }
        return text.toString();
    }

    /** For every site what its nodes have, in the order of their numbers. */
    static String letters(LineageTables x) {
        StringBuilder text = new StringBuilder();
        int nodes = x.count(0);
        int sites = x.count(3);
        for (int site = 0; site < sites; site++) {
            text.append(site == 0 ? "" : " ");
            for (int n = 0; n < nodes; n++) {
                text.append(x.letter(site, n));
            }
        }
        return text.toString();
    }

    static String cuts(LineageTables x) {
        StringBuilder text = new StringBuilder();
        int runs = x.trees();
        for (int i = 0; i <= runs; i++) {
            text.append(i == 0 ? "" : " ").append(x.cut(i));
        }
        return text.toString();
    }
}
