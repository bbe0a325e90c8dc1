import java.util.ArrayList;
import java.util.Arrays;
import java.util.Comparator;
import java.util.List;
import java.util.function.IntPredicate;
import java.util.stream.Collectors;
import java.util.stream.IntStream;

/** The document's words once more, without thrift: every answer is worked out from the terms as they are written. */
final class Model {
    static final int NONE = -1;

    private record Node(int time, boolean sample) {
    }

    private record Site(int place, int ancestral) {
    }

    private record Mutation(int site, int node, int letter) {
    }

    private record Edge(int left, int right, int parent, int child) {
    }

    private List<Node> nodes = new ArrayList<>();
    private final List<Site> sites = new ArrayList<>();
    private List<Mutation> mutations = new ArrayList<>();
    private int[][] parents = bare();
    private List<Integer> stayed = List.of();

    private static int[][] bare() {
        return IntStream.range(0, 60).mapToObj(place -> IntStream.range(0, 14).map(n -> NONE).toArray())
                .toArray(int[][]::new);
    }

    int node(int time, boolean sample) {
        argument(time >= 0 && time <= 1000);
        state(nodes.size() < 14);
        nodes.add(new Node(time, sample));
        return nodes.size() - 1;
    }

    int join(int left, int right, int p, int c) {
        index(0 <= left && left < right && right <= 60 && isNode(p) && isNode(c));
        argument(time(p) > time(c));
        state(IntStream.range(left, right).allMatch(s -> parents[s][c] == NONE || parents[s][c] == p));
        int[] bare = IntStream.range(left, right).filter(s -> parents[s][c] == NONE).toArray();
        for (int place : bare) {
            parents[place][c] = p;
        }
        return bare.length;
    }

    int part(int left, int right, int c) {
        index(0 <= left && left < right && right <= 60 && isNode(c));
        int[] had = IntStream.range(left, right).filter(s -> parents[s][c] != NONE).toArray();
        for (int place : had) {
            parents[place][c] = NONE;
        }
        return had.length;
    }

    int site(int place, int ancestral) {
        index(isPlace(place));
        argument(ancestral >= 0 && ancestral <= 3 && sites.stream().noneMatch(s -> s.place() == place));
        state(sites.size() < 8);
        sites.add(new Site(place, ancestral));
        return sites.size() - 1;
    }

    int mutate(int site, int node, int letter) {
        index(isSite(site) && isNode(node));
        argument(letter >= -1 && letter <= 3);
        int before = own(site, node);
        mutations.removeIf(m -> m.site() == site && m.node() == node);
        if (letter != -1) {
            mutations.add(new Mutation(site, node, letter));
        }
        return before;
    }

    int count(int what) {
        return switch (what) {
            case 0 -> nodes.size();
            case 1 -> samples().size();
            case 2 -> edges().size();
            case 3 -> sites.size();
            case 4 -> mutations.size();
            default -> NONE;
        };
    }

    int time(int node) {
        index(isNode(node));
        return nodes.get(node).time();
    }

    int edge(int i, int what) {
        List<Edge> edges = edges();
        index(i >= 0 && i < edges.size() && what >= 0 && what <= 3);
        Edge e = edges.get(i);
        return List.of(e.left(), e.right(), e.parent(), e.child()).get(what);
    }

    int parent(int place, int node) {
        index(isPlace(place) && isNode(node));
        return parents[place][node];
    }

    int meet(int place, int a, int b) {
        index(isPlace(place) && isNode(a) && isNode(b));
        List<Integer> both = new ArrayList<>(upFrom(place, a));
        both.retainAll(upFrom(place, b));
        return both.isEmpty() ? NONE : both.get(0);
    }

    int trees() {
        return cuts().size();
    }

    int cut(int i) {
        List<Integer> cuts = cuts();
        index(i >= 0 && i <= cuts.size());
        return i == cuts.size() ? 60 : cuts.get(i);
    }

    int letter(int site, int node) {
        index(isSite(site) && isNode(node));
        return upFrom(sites.get(site).place(), node).stream().map(n -> own(site, n)).filter(l -> l != NONE)
                .findFirst().orElse(sites.get(site).ancestral());
    }

    int differing() {
        int pairs = 0;
        for (int site = 0; site < sites.size(); site++) {
            for (int a : samples()) {
                for (int b : samples()) {
                    pairs += a < b && letter(site, a) != letter(site, b) ? 1 : 0;
                }
            }
        }
        return pairs;
    }

    int spectrum(int k) {
        int found = 0;
        for (int s = 0; s < sites.size(); s++) {
            for (int l = 0; l < 4; l++) {
                int site = s;
                int letter = l;
                long having = samples().stream().filter(n -> letter(site, n) == letter).count();
                found += k >= 1 && letter != sites.get(site).ancestral() && having == k ? 1 : 0;
            }
        }
        return found;
    }

    int area() {
        int sum = 0;
        for (int p = 0; p < 60; p++) {
            int place = p;
            for (int n : numbers(n -> parents[place][n] != NONE && isLive(place, n))) {
                boolean all = samples().stream().allMatch(s -> upFrom(place, s).contains(n));
                sum += all ? 0 : time(parents[place][n]) - time(n);
            }
        }
        return sum;
    }

    int simplify() {
        List<Integer> stay = numbers(n -> nodes.get(n).sample()
                || IntStream.range(0, 60).anyMatch(place -> isFork(place, n)));
        List<Node> smallNodes = stay.stream().map(nodes::get).collect(Collectors.toCollection(ArrayList::new));
        int[][] smallParents = bare();
        for (int p = 0; p < 60; p++) {
            int place = p;
            for (int n : numbers(n -> matters(place, n))) {
                smallParents[place][stay.indexOf(n)] = upFrom(place, n).stream().skip(1)
                        .filter(above -> matters(place, above)).map(stay::indexOf).findFirst().orElse(NONE);
            }
        }
        mutations = smallMutations(stay);
        nodes = smallNodes;
        parents = smallParents;
        stayed = stay;
        return stay.size();
    }

    int became(int node) {
        return stayed.indexOf(node);
    }

    private List<Mutation> smallMutations(List<Integer> stay) {
        List<Mutation> small = new ArrayList<>();
        for (Mutation m : mutations) {
            int place = sites.get(m.site()).place();
            if (isLive(place, m.node())) {
                int to = goesTo(place, m.node());
                boolean lowest = mutations.stream().filter(o -> o.site() == m.site() && o.node() != m.node())
                        .filter(o -> isLive(place, o.node()) && goesTo(place, o.node()) == to)
                        .allMatch(o -> upFrom(place, m.node()).contains(o.node()));
                if (lowest) {
                    small.add(new Mutation(m.site(), stay.indexOf(to), m.letter()));
                }
            }
        }
        return small;
    }

    private int goesTo(int place, int node) {
        List<Integer> those = numbers(n -> matters(place, n) && upFrom(place, n).contains(node));
        List<Integer> highest = those.stream()
                .filter(n -> those.stream().allMatch(other -> upFrom(place, other).contains(n)))
                .collect(Collectors.toList());
        if (highest.size() != 1) {
            throw new AssertionError("not just one highest");
        }
        return highest.get(0);
    }

    private List<Integer> numbers(IntPredicate which) {
        return IntStream.range(0, nodes.size()).filter(which).boxed().collect(Collectors.toList());
    }

    private List<Integer> samples() {
        return numbers(n -> nodes.get(n).sample());
    }

    /** The node, and those above it, from the nearest on. */
    private List<Integer> upFrom(int place, int node) {
        List<Integer> way = new ArrayList<>();
        for (int n = node; n != NONE; n = parents[place][n]) {
            way.add(n);
        }
        return way;
    }

    private boolean isLive(int place, int node) {
        return samples().stream().anyMatch(s -> upFrom(place, s).contains(node));
    }

    private boolean isFork(int place, int node) {
        return numbers(c -> parents[place][c] == node && isLive(place, c)).size() >= 2;
    }

    private boolean matters(int place, int node) {
        return nodes.get(node).sample() || isFork(place, node);
    }

    private int own(int site, int node) {
        return mutations.stream().filter(m -> m.site() == site && m.node() == node).map(Mutation::letter)
                .findFirst().orElse(NONE);
    }

    private List<Edge> edges() {
        List<Edge> edges = new ArrayList<>();
        for (int c = 0; c < nodes.size(); c++) {
            int left = 0;
            for (int place = 1; place <= 60; place++) {
                if (place == 60 || parents[place][c] != parents[left][c]) {
                    edges.add(new Edge(left, place, parents[left][c], c));
                    left = place;
                }
            }
        }
        edges.removeIf(e -> e.parent() == NONE);
        edges.sort(Comparator.<Edge>comparingInt(e -> time(e.parent())).thenComparingInt(Edge::parent)
                .thenComparingInt(Edge::child).thenComparingInt(Edge::left));
        return edges;
    }

    private List<Integer> cuts() {
        return IntStream.range(0, 60)
                .filter(place -> place == 0 || !Arrays.equals(parents[place - 1], parents[place]))
                .boxed().collect(Collectors.toList());
    }

    private boolean isNode(int n) {
        return n >= 0 && n < nodes.size();
    }

    private boolean isSite(int n) {
        return n >= 0 && n < sites.size();
    }

    private static boolean isPlace(int n) {
        return n >= 0 && n < 60;
    }

    private static void index(boolean holds) {
        if (!holds) {
            throw new IndexOutOfBoundsException();
        }
    }

    private static void argument(boolean holds) {
        if (!holds) {
            throw new IllegalArgumentException();
        }
    }

    private static void state(boolean holds) {
        if (!holds) {
            throw new IllegalStateException();
        }
    }
}
