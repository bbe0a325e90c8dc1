import java.util.Arrays;

/**
 * Who came of whom along a stretch of genome. What holds at each place is kept place by place; edges,
 * runs and sums are read off from that when they are asked for, so that nothing has to be kept in step.
 */
public final class LineageTables {
    public static final int NONE = -1;

    private static final int PLACES = 60;
    private static final int MAX_NODES = 14;
    private static final int MAX_TIME = 1000;
    private static final int MAX_SITES = 8;
    private static final int LETTERS = 4;

    private int nodeCount;
    private final int[] times;
    private final boolean[] samples;
    /** A row of MAX_NODES for each place; NONE for numbers that no node has, so that a new node starts bare. */
    private final int[] parents;

    private int siteCount;
    private final int[] sitePlaces;
    private final int[] ancestrals;
    /** A row of MAX_NODES for each site; NONE for numbers that no node has, as with the parents. */
    private final int[] mutations;

    /** By the numbers before the latest making smaller. */
    private final int[] newNumbers;

    // Rows that calls write anew before they read them, made once because all calls share one room.
    private final int[] carried;
    private final int[] mattering;
    private final int[] tally;
    private final int[] row;

    public LineageTables() {
        nodeCount = 0;
        times = new int[MAX_NODES];
        samples = new boolean[MAX_NODES];
        parents = new int[PLACES * MAX_NODES];
        siteCount = 0;
        sitePlaces = new int[MAX_SITES];
        ancestrals = new int[MAX_SITES];
        mutations = new int[MAX_SITES * MAX_NODES];
        newNumbers = new int[MAX_NODES];
        carried = new int[MAX_NODES];
        mattering = new int[PLACES];
        tally = new int[LETTERS];
        row = new int[MAX_NODES];
        Arrays.fill(parents, NONE);
        Arrays.fill(mutations, NONE);
        Arrays.fill(newNumbers, NONE);
    }

    public int node(int time, boolean sample) throws IllegalArgumentException, IllegalStateException {
        if (time < 0 || time > MAX_TIME) {
            throw new IllegalArgumentException("time is not 0 .. 1000");
        }
        if (nodeCount >= MAX_NODES) {
            throw new IllegalStateException("there are 14 nodes");
        }
        times[nodeCount] = time;
        samples[nodeCount] = sample;
        nodeCount++;
        return nodeCount - 1;
    }

    public int join(int left, int right, int p, int c)
            throws IndexOutOfBoundsException, IllegalArgumentException, IllegalStateException {
        if (!isRun(left, right) || !isNode(p) || !isNode(c)) {
            throw new IndexOutOfBoundsException("no such places or node");
        }
        if (times[p] <= times[c]) {
            throw new IllegalArgumentException("the parent's time is not greater");
        }
        if (hasParentBeside(left, right, p, c)) {
            throw new IllegalStateException("the child has another parent");
        }
        return setParents(left, right, c, p);
    }

    public int part(int left, int right, int c) throws IndexOutOfBoundsException {
        if (!isRun(left, right) || !isNode(c)) {
            throw new IndexOutOfBoundsException("no such places or node");
        }
        return setParents(left, right, c, NONE);
    }

    public int site(int place, int ancestral)
            throws IndexOutOfBoundsException, IllegalArgumentException, IllegalStateException {
        if (!isPlace(place)) {
            throw new IndexOutOfBoundsException("no such place");
        }
        if (ancestral < 0 || ancestral >= LETTERS || hasSite(place)) {
            throw new IllegalArgumentException("no letter, or the place has a site");
        }
        if (siteCount >= MAX_SITES) {
            throw new IllegalStateException("there are 8 sites");
        }
        sitePlaces[siteCount] = place;
        ancestrals[siteCount] = ancestral;
        siteCount++;
        return siteCount - 1;
    }

    public int mutate(int site, int node, int letter) throws IndexOutOfBoundsException, IllegalArgumentException {
        if (!isSite(site) || !isNode(node)) {
            throw new IndexOutOfBoundsException("no such site or node");
        }
        if (letter < NONE || letter >= LETTERS) {
            throw new IllegalArgumentException("letter is not -1 .. 3");
        }
        int before = mutations[site * MAX_NODES + node];
        mutations[site * MAX_NODES + node] = letter;
        return before;
    }

    public int count(int what) {
        switch (what) {
            case 0:
                return nodeCount;
            case 1:
                return countSamples();
            case 2:
                return countEdges();
            case 3:
                return siteCount;
            case 4:
                return countMutations();
            default:
                return NONE;
        }
    }

    public int time(int node) throws IndexOutOfBoundsException {
        if (!isNode(node)) {
            throw new IndexOutOfBoundsException("no such node");
        }
        return times[node];
    }

    public int edge(int i, int what) throws IndexOutOfBoundsException {
        int start = findEdge(i);
        if (start == NONE || what < 0 || what > 3) {
            throw new IndexOutOfBoundsException("no such edge, or nothing that an edge has");
        }
        int left = start / MAX_NODES;
        int child = start % MAX_NODES;
        switch (what) {
            case 0:
                return left;
            case 1:
                return edgeEnd(left, child);
            case 2:
                return parentAt(left, child);
            default:
                return child;
        }
    }

    public int parent(int place, int node) throws IndexOutOfBoundsException {
        if (!isPlace(place) || !isNode(node)) {
            throw new IndexOutOfBoundsException("no such place or node");
        }
        return parentAt(place, node);
    }

    public int meet(int place, int a, int b) throws IndexOutOfBoundsException {
        if (!isPlace(place) || !isNode(a) || !isNode(b)) {
            throw new IndexOutOfBoundsException("no such place or node");
        }
        int n = a;
        for (int step = 0; step < MAX_NODES && n != NONE; step++) {
            if (isAtOrAbove(place, n, b)) {
                return n;
            }
            n = parentAt(place, n);
        }
        return NONE;
    }

    public int trees() {
        int runs = 0;
        for (int place = 0; place < PLACES; place++) {
            if (startsRun(place)) {
                runs++;
            }
        }
        return runs;
    }

    public int cut(int i) throws IndexOutOfBoundsException {
        int runs = 0;
        for (int place = 0; place < PLACES; place++) {
            if (startsRun(place)) {
                if (runs == i) {
                    return place;
                }
                runs++;
            }
        }
        if (runs != i) {
            throw new IndexOutOfBoundsException("no such run");
        }
        return PLACES;
    }

    public int letter(int site, int node) throws IndexOutOfBoundsException {
        if (!isSite(site) || !isNode(node)) {
            throw new IndexOutOfBoundsException("no such site or node");
        }
        return letterAt(site, node);
    }

    public int differing() {
        int pairs = 0;
        for (int site = 0; site < siteCount; site++) {
            tallyLetters(site);
            int earlier = 0;
            for (int letter = 0; letter < LETTERS; letter++) {
                pairs += earlier * tally[letter];
                earlier += tally[letter];
            }
        }
        return pairs;
    }

    public int spectrum(int k) {
        if (k < 1) {
            return 0;
        }
        int found = 0;
        for (int site = 0; site < siteCount; site++) {
            tallyLetters(site);
            for (int letter = 0; letter < LETTERS; letter++) {
                if (letter != ancestrals[site] && tally[letter] == k) {
                    found++;
                }
            }
        }
        return found;
    }

    public int area() {
        int all = countSamples();
        int sum = 0;
        for (int place = 0; place < PLACES; place++) {
            countCarried(place);
            for (int n = 0; n < nodeCount; n++) {
                int p = parentAt(place, n);
                if (p != NONE && carried[n] > 0 && carried[n] < all) {
                    sum += times[p] - times[n];
                }
            }
        }
        return sum;
    }

    public int simplify() {
        int stay = 0;
        for (int place = 0; place < PLACES; place++) {
            mattering[place] = findMattering(place);
            stay |= mattering[place];
        }
        int staying = renumber(stay);
        // The mutations go first: where they go over to is seen by the old parents.
        for (int site = 0; site < siteCount; site++) {
            moveMutations(site);
        }
        for (int place = 0; place < PLACES; place++) {
            moveParents(place);
        }
        moveNodes();
        nodeCount = staying;
        return staying;
    }

    public int became(int node) {
        if (node < 0 || node >= MAX_NODES) {
            return NONE;
        }
        return newNumbers[node];
    }

    private boolean isNode(int n) {
        return n >= 0 && n < nodeCount;
    }

    private boolean isSite(int n) {
        return n >= 0 && n < siteCount;
    }

    private static boolean isPlace(int n) {
        return n >= 0 && n < PLACES;
    }

    private static boolean isRun(int left, int right) {
        return left >= 0 && left < right && right <= PLACES;
    }

    private int parentAt(int place, int n) {
        return parents[place * MAX_NODES + n];
    }

    private boolean hasParentBeside(int left, int right, int p, int c) {
        for (int place = left; place < right; place++) {
            int now = parentAt(place, c);
            if (now != NONE && now != p) {
                return true;
            }
        }
        return false;
    }

    /** Answers at how many places this changed the parent. */
    private int setParents(int left, int right, int c, int p) {
        int changed = 0;
        for (int place = left; place < right; place++) {
            if (parentAt(place, c) != p) {
                parents[place * MAX_NODES + c] = p;
                changed++;
            }
        }
        return changed;
    }

    private boolean hasSite(int place) {
        for (int site = 0; site < siteCount; site++) {
            if (sitePlaces[site] == place) {
                return true;
            }
        }
        return false;
    }

    private int countSamples() {
        int found = 0;
        for (int n = 0; n < nodeCount; n++) {
            if (samples[n]) {
                found++;
            }
        }
        return found;
    }

    private int countMutations() {
        int found = 0;
        for (int i = 0; i < mutations.length; i++) {
            if (mutations[i] != NONE) {
                found++;
            }
        }
        return found;
    }

    private int countEdges() {
        int found = 0;
        for (int place = 0; place < PLACES; place++) {
            for (int c = 0; c < nodeCount; c++) {
                if (startsEdge(place, c)) {
                    found++;
                }
            }
        }
        return found;
    }

    private boolean startsEdge(int place, int c) {
        int p = parentAt(place, c);
        return p != NONE && (place == 0 || parentAt(place - 1, c) != p);
    }

    private int edgeEnd(int left, int c) {
        int end = left + 1;
        while (end < PLACES && parentAt(end, c) == parentAt(left, c)) {
            end++;
        }
        return end;
    }

    /** Where in the parents edge i begins, its first place and its child in one number; NONE if there is none. */
    private int findEdge(int i) {
        int passed = 0;
        int p = nextByTime(NONE);
        for (int rank = 0; rank < MAX_NODES && p != NONE; rank++) {
            for (int c = 0; c < nodeCount; c++) {
                for (int place = 0; place < PLACES; place++) {
                    if (parentAt(place, c) == p && startsEdge(place, c)) {
                        if (passed == i) {
                            return place * MAX_NODES + c;
                        }
                        passed++;
                    }
                }
            }
            p = nextByTime(p);
        }
        return NONE;
    }

    /** The node behind n in the order of times, then numbers; the first of all behind NONE. */
    private int nextByTime(int n) {
        int next = NONE;
        for (int m = 0; m < nodeCount; m++) {
            if ((n == NONE || isEarlier(n, m)) && (next == NONE || isEarlier(m, next))) {
                next = m;
            }
        }
        return next;
    }

    private boolean isEarlier(int a, int b) {
        return times[a] < times[b] || (times[a] == times[b] && a < b);
    }

    private boolean isAtOrAbove(int place, int upper, int lower) {
        int n = lower;
        for (int step = 0; step < MAX_NODES && n != NONE; step++) {
            if (n == upper) {
                return true;
            }
            n = parentAt(place, n);
        }
        return false;
    }

    private boolean startsRun(int place) {
        if (place == 0) {
            return true;
        }
        for (int n = 0; n < nodeCount; n++) {
            if (parentAt(place, n) != parentAt(place - 1, n)) {
                return true;
            }
        }
        return false;
    }

    private int letterAt(int site, int node) {
        int n = node;
        for (int step = 0; step < MAX_NODES && n != NONE; step++) {
            int own = mutations[site * MAX_NODES + n];
            if (own != NONE) {
                return own;
            }
            n = parentAt(sitePlaces[site], n);
        }
        return ancestrals[site];
    }

    /** Leaves in the tally how many samples have each letter at the site. */
    private void tallyLetters(int site) {
        Arrays.fill(tally, 0);
        for (int n = 0; n < nodeCount; n++) {
            if (samples[n]) {
                tally[letterAt(site, n)]++;
            }
        }
    }

    /** Leaves in carried, for each node, how many samples are it or below it at the place: live nodes carry some. */
    private void countCarried(int place) {
        Arrays.fill(carried, 0);
        for (int sample = 0; sample < nodeCount; sample++) {
            int n = samples[sample] ? sample : NONE;
            for (int step = 0; step < MAX_NODES && n != NONE; step++) {
                carried[n]++;
                n = parentAt(place, n);
            }
        }
    }

    /** The nodes that matter at the place, as a set of bits. */
    private int findMattering(int place) {
        countCarried(place);
        int found = 0;
        for (int n = 0; n < nodeCount; n++) {
            if (samples[n] || countLiveChildren(place, n) >= 2) {
                found |= 1 << n;
            }
        }
        return found;
    }

    /** Relies on what countCarried left for the place. */
    private int countLiveChildren(int place, int p) {
        int found = 0;
        for (int c = 0; c < nodeCount; c++) {
            if (parentAt(place, c) == p && carried[c] > 0) {
                found++;
            }
        }
        return found;
    }

    private boolean matters(int place, int n) {
        return (mattering[place] >> n & 1) == 1;
    }

    /** Gives the nodes of the set their new numbers, and answers how many they are. */
    private int renumber(int stay) {
        int next = 0;
        for (int n = 0; n < MAX_NODES; n++) {
            if ((stay >> n & 1) == 1) {
                newNumbers[n] = next;
                next++;
            } else {
                newNumbers[n] = NONE;
            }
        }
        return next;
    }

    private void moveMutations(int site) {
        int place = sitePlaces[site];
        Arrays.fill(row, NONE);
        for (int n = 0; n < nodeCount; n++) {
            if (matters(place, n)) {
                row[newNumbers[n]] = mutationComingTo(site, n);
            }
        }
        System.arraycopy(row, 0, mutations, site * MAX_NODES, MAX_NODES);
    }

    /**
     * A live node that does not matter has just one live child, so all whose mutations come to n are on the
     * way up from n to the next that matters; the first one met is the lowest.
     */
    private int mutationComingTo(int site, int n) {
        int place = sitePlaces[site];
        int own = mutations[site * MAX_NODES + n];
        int above = parentAt(place, n);
        for (int step = 0; step < MAX_NODES && own == NONE && above != NONE && !matters(place, above); step++) {
            own = mutations[site * MAX_NODES + above];
            above = parentAt(place, above);
        }
        return own;
    }

    private void moveParents(int place) {
        Arrays.fill(row, NONE);
        for (int n = 0; n < nodeCount; n++) {
            if (matters(place, n)) {
                int above = nearestMatteringAbove(place, n);
                row[newNumbers[n]] = above == NONE ? NONE : newNumbers[above];
            }
        }
        System.arraycopy(row, 0, parents, place * MAX_NODES, MAX_NODES);
    }

    private int nearestMatteringAbove(int place, int n) {
        int above = parentAt(place, n);
        for (int step = 0; step < MAX_NODES && above != NONE && !matters(place, above); step++) {
            above = parentAt(place, above);
        }
        return above;
    }

    private void moveNodes() {
        // A new number is never above the old one, so nothing is written over before it is read.
        for (int n = 0; n < nodeCount; n++) {
            int to = newNumbers[n];
            if (to != NONE) {
                times[to] = times[n];
                samples[to] = samples[n];
            }
        }
    }
}
