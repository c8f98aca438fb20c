/**
 * Graphs as meetings of intervals on a line.
 *
 * <p>What is asked of the graph is worked out at the first question behind a change of the links,
 * in rows that are made once, and kept until the next change.
 */
public final class SpanGraph {
    public static final int NONE = -1;

    private static final int VERTICES = 14;
    private static final int ALL = (1 << VERTICES) - 1;
    /** 3 * 3 * 3 * 3 * 2: no graph of 14 vertices has more cliques. */
    private static final int MOST_CLIQUES = 162;
    /** Each clique of a line is the last one of some vertex, so they are no more than the vertices. */
    private static final int MOST_PLACES = VERTICES;
    /** A tree that has two branches or more at each fork, and a leaf for each place. */
    private static final int MOST_NODES = 2 * MOST_PLACES - 1;

    private final Links links;
    private final HoleSearch holeSearch;
    private final TripleSearch tripleSearch;
    private final CliqueList found;
    private final OrderTree tree;
    private final FirstLine first;
    private final LineCounts counts;
    private boolean holeKnown;
    private boolean tripleKnown;
    private boolean cliquesKnown;
    private boolean linesKnown;

    public SpanGraph() {
        links = new Links();
        holeSearch = new HoleSearch();
        tripleSearch = new TripleSearch();
        found = new CliqueList();
        tree = new OrderTree();
        first = new FirstLine();
        counts = new LineCounts();
    }

    public int link(int u, int v) {
        if (!isVertex(u) || !isVertex(v) || u == v) {
            return NONE;
        }
        forget();
        links.turn(u, v);
        return links.joined(u, v) ? 1 : 0;
    }

    public int clear() {
        int before = links.count();
        forget();
        links.cutAll();
        return before;
    }

    public int hole(int i) {
        seekHole();
        return i >= 0 && i < holeSearch.length ? holeSearch.vertices[i] : NONE;
    }

    public int triple(int which) {
        seekTriple();
        return tripleSearch.exists && isCorner(which) ? tripleSearch.corners[which] : NONE;
    }

    public int path(int which, int i) {
        seekTriple();
        if (!tripleSearch.exists || !isCorner(which)) {
            return NONE;
        }
        Walk walk = tripleSearch.walks[which];
        return i >= 0 && i < walk.length ? walk.vertices[i] : NONE;
    }

    public int cliques() {
        seekCliques();
        return found.count;
    }

    public int clique(int k) {
        seekCliques();
        return isClique(k) ? found.sets[k] : NONE;
    }

    public long lines() {
        seekLines();
        return counts.total;
    }

    public int at(int place) {
        seekLines();
        return place >= 0 && place < first.length ? first.order[place] : NONE;
    }

    public int span(int v, boolean last) {
        seekLines();
        if (!isVertex(v)) {
            return NONE;
        }
        int answer = NONE;
        for (int place = 0; place < first.length; place++) {
            boolean better = last || answer == NONE;
            if (better && has(found.sets[first.order[place]], v)) {
                answer = place;
            }
        }
        return answer;
    }

    public long begins(int k) {
        seekLines();
        if (!isClique(k)) {
            return NONE;
        }
        return tree.stands ? counts.beginWith(tree, k) : 0;
    }

    public long follows(int k, int l) {
        seekLines();
        if (!isClique(k) || !isClique(l) || k == l) {
            return NONE;
        }
        return tree.stands ? counts.nextTo(tree, k, l) : 0;
    }

    public long between(int k, int l, int j) {
        seekLines();
        if (!isClique(k) || !isClique(l) || !isClique(j)) {
            return NONE;
        }
        if (k == l || l == j || k == j) {
            return NONE;
        }
        return tree.stands ? counts.amid(tree, k, l, j) : 0;
    }

    public boolean isProper() {
        seekLines();
        return tree.stands && !links.anyClaw();
    }

    private void forget() {
        holeKnown = false;
        tripleKnown = false;
        cliquesKnown = false;
        linesKnown = false;
    }

    private void seekHole() {
        if (!holeKnown) {
            holeSearch.search(links);
            holeKnown = true;
        }
    }

    private void seekTriple() {
        if (!tripleKnown) {
            tripleSearch.search(links);
            tripleKnown = true;
        }
    }

    private void seekCliques() {
        if (!cliquesKnown) {
            found.gather(links);
            cliquesKnown = true;
        }
    }

    private void seekLines() {
        if (!linesKnown) {
            seekCliques();
            tree.build(found);
            first.lay(tree);
            counts.count(tree);
            linesKnown = true;
        }
    }

    /** To be asked only once the cliques are known. */
    private boolean isClique(int k) {
        return k >= 0 && k < found.count;
    }

    private static boolean isVertex(int v) {
        return v >= 0 && v < VERTICES;
    }

    private static boolean isCorner(int which) {
        return which >= 0 && which < 3;
    }

    private static boolean has(int set, int member) {
        return ((set >> member) & 1) != 0;
    }

    private static boolean isWithin(int set, int whole) {
        return (set & ~whole) == 0;
    }

    /** The least member of a set that has one. */
    private static int lowest(int set) {
        return Integer.bitCount((set & -set) - 1);
    }

    /** All vertices behind v. */
    private static int above(int v) {
        return ALL & -(2 << v);
    }

    /** Which vertices are linked. */
    private static final class Links {
        /** For each vertex the set of those that it is linked to. */
        private final int[] near = new int[VERTICES];

        void turn(int u, int v) {
            near[u] ^= 1 << v;
            near[v] ^= 1 << u;
        }

        boolean joined(int u, int v) {
            return has(near[u], v);
        }

        int count() {
            int ends = 0;
            for (int v = 0; v < VERTICES; v++) {
                ends += Integer.bitCount(near[v]);
            }
            return ends / 2;
        }

        void cutAll() {
            for (int v = 0; v < VERTICES; v++) {
                near[v] = 0;
            }
        }

        /** All that are linked to one of a set or more. */
        int nearAny(int set) {
            int answer = 0;
            for (int v = 0; v < VERTICES; v++) {
                if (has(set, v)) {
                    answer |= near[v];
                }
            }
            return answer;
        }

        /** All that are linked to each one of a set. */
        int nearEach(int set) {
            int answer = ALL;
            for (int v = 0; v < VERTICES; v++) {
                if (has(set, v)) {
                    answer &= near[v];
                }
            }
            return answer;
        }

        /** All but a vertex and those that are linked to it. */
        int apartFrom(int v) {
            return ALL & ~(near[v] | (1 << v));
        }

        boolean anyClaw() {
            for (int v = 0; v < VERTICES; v++) {
                if (anyThreeApart(near[v])) {
                    return true;
                }
            }
            return false;
        }

        private boolean anyThreeApart(int set) {
            for (int a = 0; a < VERTICES; a++) {
                int behind = has(set, a) ? set & above(a) & ~near[a] : 0;
                for (int b = a + 1; b < VERTICES; b++) {
                    if (has(behind, b) && (behind & above(b) & ~near[b]) != 0) {
                        return true;
                    }
                }
            }
            return false;
        }
    }

    /** A shortest path, of these the one that comes first. */
    private static final class Walk {
        /** Those at each distance from the goals: a step from one ring to the next never errs. */
        private final int[] rings = new int[VERTICES];
        private final int[] vertices = new int[VERTICES];
        private int length;

        /** Seeks a path to one of the goals; all but its two ends are out of through. */
        boolean find(Links links, int from, int goals, int through) {
            int ring = goals;
            int seen = goals;
            for (int steps = 0; steps < VERTICES - 1 && ring != 0; steps++) {
                rings[steps] = ring;
                if ((ring & links.near[from]) != 0) {
                    trace(links, from, steps);
                    return true;
                }
                ring = links.nearAny(ring) & through & ~seen;
                seen |= ring;
            }
            length = 0;
            return false;
        }

        private void trace(Links links, int from, int steps) {
            vertices[0] = from;
            length = 1;
            for (int ring = steps; ring >= 0; ring--) {
                vertices[length] = lowest(rings[ring] & links.near[vertices[length - 1]]);
                length++;
            }
        }
    }

    /** The hole. */
    private static final class HoleSearch {
        private final int[] vertices = new int[VERTICES];
        private final Walk walk = new Walk();
        private int length;

        void search(Links links) {
            length = 0;
            for (int least = 0; least < VERTICES; least++) {
                for (int second = least + 1; second < VERTICES; second++) {
                    if (links.joined(least, second)) {
                        tryFrom(links, least, second);
                    }
                }
            }
        }

        /**
         * A shortest way round from the second vertex to a greater neighbour of the least one has no
         * chord. A later one must be shorter to count, as the pairs come in the order of writing.
         */
        private void tryFrom(Links links, int least, int second) {
            int lastOnes = links.near[least] & above(second) & ~links.near[second];
            int through = above(least) & ~links.near[least];
            if (!walk.find(links, second, lastOnes, through)) {
                return;
            }
            if (length == 0 || walk.length + 1 < length) {
                vertices[0] = least;
                System.arraycopy(walk.vertices, 0, vertices, 1, walk.length);
                length = walk.length + 1;
            }
        }
    }

    /** The triple and its paths. */
    private static final class TripleSearch {
        private final int[] corners = new int[3];
        private final Walk[] walks = new Walk[3];
        /** For vertices v and u, at v * VERTICES + u: all that u reaches apart from v. */
        private final int[] reached = new int[VERTICES * VERTICES];
        private boolean exists;

        TripleSearch() {
            for (int which = 0; which < 3; which++) {
                walks[which] = new Walk();
            }
        }

        void search(Links links) {
            for (int v = 0; v < VERTICES; v++) {
                reachApartFrom(links, v);
            }
            exists = pick();
            if (exists) {
                walkAround(links, 0, 1, 2);
                walkAround(links, 1, 0, 2);
                walkAround(links, 2, 0, 1);
            }
        }

        private void reachApartFrom(Links links, int v) {
            int free = links.apartFrom(v);
            int done = 0;
            for (int u = 0; u < VERTICES; u++) {
                if (!has(free, u)) {
                    reached[v * VERTICES + u] = 0;
                } else if (!has(done, u)) {
                    int piece = flood(links, 1 << u, free);
                    done |= piece;
                    note(v, piece);
                }
            }
        }

        private static int flood(Links links, int start, int free) {
            int piece = start;
            for (int step = 0; step < VERTICES; step++) {
                int wider = piece | (links.nearAny(piece) & free);
                if (wider == piece) {
                    break;
                }
                piece = wider;
            }
            return piece;
        }

        private void note(int v, int piece) {
            for (int u = 0; u < VERTICES; u++) {
                if (has(piece, u)) {
                    reached[v * VERTICES + u] = piece;
                }
            }
        }

        private boolean pick() {
            for (int a = 0; a < VERTICES; a++) {
                for (int b = a + 1; b < VERTICES; b++) {
                    for (int c = b + 1; c < VERTICES; c++) {
                        if (joinsApart(a, b, c) && joinsApart(b, a, c) && joinsApart(c, a, b)) {
                            corners[0] = a;
                            corners[1] = b;
                            corners[2] = c;
                            return true;
                        }
                    }
                }
            }
            return false;
        }

        private boolean joinsApart(int third, int u, int v) {
            return has(reached[third * VERTICES + u], v);
        }

        private void walkAround(Links links, int third, int from, int to) {
            int through = links.apartFrom(corners[third]);
            walks[third].find(links, corners[from], 1 << corners[to], through);
        }
    }

    /** All cliques, the least first. */
    private static final class CliqueList {
        private final int[] sets = new int[MOST_CLIQUES];
        private final int[] older = new int[MOST_CLIQUES];
        private int count;

        void gather(Links links) {
            // Among no vertices at all the empty set is one to which no other vertex could come.
            sets[0] = 0;
            count = 1;
            for (int v = 0; v < VERTICES; v++) {
                widen(links, v);
            }
        }

        /** From the cliques among the vertices below v to those among these and v. */
        private void widen(Links links, int v) {
            int olderCount = count;
            int near = links.near[v];
            int upToV = (2 << v) - 1;
            System.arraycopy(sets, 0, older, 0, olderCount);
            count = 0;
            for (int i = 0; i < olderCount; i++) {
                if (!isWithin(older[i], near)) {
                    sets[count] = older[i];
                    count++;
                }
            }
            for (int i = 0; i < olderCount; i++) {
                int set = (older[i] & near) | (1 << v);
                if ((links.nearEach(set) & upToV) == 0) {
                    insert(set);
                }
            }
        }

        /** Two older cliques may leave the same one: it is kept once. */
        private void insert(int set) {
            int place = count;
            for (int i = count - 1; i >= 0 && sets[i] >= set; i--) {
                place = i;
            }
            boolean kept = place < count && sets[place] == set;
            if (!kept && count < MOST_CLIQUES) {
                System.arraycopy(sets, place, sets, place + 1, count - place);
                sets[place] = set;
                count++;
            }
        }

        /** The set of the cliques that have a vertex; to be asked only of cliques that fit a line. */
        int holders(int v) {
            int answer = 0;
            for (int k = 0; k < count && k < MOST_PLACES; k++) {
                if (has(sets[k], v)) {
                    answer |= 1 << k;
                }
            }
            return answer;
        }
    }

    /**
     * Cliques in parts whose order is fixed but for its reverse, as sets that overlap fix it: two sets
     * overlap that meet and neither of which has the other one within it.
     */
    private static final class Parts {
        private final int[] part = new int[MOST_PLACES];
        private int count;
        private int union;

        /** Joins all sets that overlap with the seed, with these, and so on: false if they can't. */
        boolean grow(int[] sets, int seed) {
            part[0] = seed;
            count = 1;
            union = seed;
            int joined = 0;
            boolean grown = true;
            for (int pass = 0; pass < VERTICES && grown; pass++) {
                grown = false;
                for (int v = 0; v < VERTICES; v++) {
                    if (!has(joined, v) && overlaps(sets[v])) {
                        if (!join(sets[v])) {
                            return false;
                        }
                        joined |= 1 << v;
                        grown = true;
                    }
                }
            }
            return true;
        }

        /** Whether a set overlaps with one that has been joined, or with the seed. */
        private boolean overlaps(int set) {
            if ((set & union) == 0 || isWithin(union, set)) {
                return false;
            }
            for (int i = 0; i < count; i++) {
                if (isWithin(set, part[i])) {
                    return false;
                }
            }
            return true;
        }

        private boolean join(int set) {
            int fresh = set & ~union;
            if (fresh != 0) {
                if (!runsOutAtEnd(set)) {
                    reverse();
                }
                append(fresh);
            }
            int from = firstMet(set);
            int to = lastMet(set);
            for (int i = from + 1; i < to; i++) {
                if (!isWithin(part[i], set)) {
                    return false;
                }
            }
            // The later one first, as it moves what is behind it.
            split(to, part[to] & set, part[to] & ~set);
            split(from, part[from] & ~set, part[from] & set);
            return true;
        }

        /** Whether a set could go on behind the last part. */
        private boolean runsOutAtEnd(int set) {
            int last = part[count - 1];
            boolean meetsOnlyLast = firstMet(set) == count - 1;
            return meetsOnlyLast || isWithin(last, set);
        }

        private int firstMet(int set) {
            for (int i = 0; i < count; i++) {
                if ((part[i] & set) != 0) {
                    return i;
                }
            }
            return 0;
        }

        private int lastMet(int set) {
            for (int i = count - 1; i >= 0; i--) {
                if ((part[i] & set) != 0) {
                    return i;
                }
            }
            return 0;
        }

        private void reverse() {
            for (int i = 0; i < count / 2; i++) {
                int swapped = part[i];
                part[i] = part[count - 1 - i];
                part[count - 1 - i] = swapped;
            }
        }

        private void append(int set) {
            if (count < MOST_PLACES) {
                part[count] = set;
                count++;
                union |= set;
            }
        }

        /** One part becomes two, if neither of these is empty. */
        private void split(int i, int front, int back) {
            if (front != 0 && back != 0 && count < MOST_PLACES) {
                System.arraycopy(part, i, part, i + 1, count - i);
                part[i] = front;
                part[i + 1] = back;
                count++;
            }
        }
    }

    /**
     * All lines at once. The leaves are the cliques, and those of one node come one behind the other in
     * each line; the children of a firm node come in their order or its reverse, those of another node
     * in any order, and each node's choice is free from all others'.
     */
    private static final class OrderTree {
        private final int[] set = new int[MOST_NODES];
        private final int[] parent = new int[MOST_NODES];
        /** The place of a node among its parent's children, which stand one behind the other. */
        private final int[] slot = new int[MOST_NODES];
        private final int[] firstChild = new int[MOST_NODES];
        private final int[] childCount = new int[MOST_NODES];
        private final boolean[] firm = new boolean[MOST_NODES];
        /** For each clique its leaf. */
        private final int[] leaf = new int[MOST_PLACES];
        /** For each vertex the set of its cliques. */
        private final int[] holders = new int[VERTICES];
        private final Parts parts = new Parts();
        private int nodes;
        /** Whether there is a line. */
        private boolean stands;

        void build(CliqueList found) {
            nodes = 0;
            stands = found.count <= MOST_PLACES;
            if (!stands) {
                return;
            }
            for (int v = 0; v < VERTICES; v++) {
                holders[v] = found.holders(v);
            }
            add(NONE, (1 << found.count) - 1);
            for (int node = 0; node < MOST_NODES && node < nodes && stands; node++) {
                stands = branch(node);
            }
        }

        private boolean branch(int node) {
            int whole = set[node];
            firstChild[node] = nodes;
            if (Integer.bitCount(whole) == 1) {
                leaf[lowest(whole)] = node;
                return true;
            }
            int left = whole;
            for (int child = 0; child < MOST_PLACES && left != 0; child++) {
                if (!parts.grow(holders, largest(left, whole))) {
                    return false;
                }
                if (parts.union == whole) {
                    addFirmly(node);
                    return true;
                }
                add(node, parts.union);
                left &= ~parts.union;
            }
            return true;
        }

        /** A largest set has no other one around all that overlaps with it: its parts are a child. */
        private int largest(int left, int whole) {
            int best = left & -left;
            for (int v = 0; v < VERTICES; v++) {
                boolean fits = isWithin(holders[v], left) && holders[v] != whole;
                if (fits && Integer.bitCount(holders[v]) > Integer.bitCount(best)) {
                    best = holders[v];
                }
            }
            return best;
        }

        private void addFirmly(int node) {
            firm[node] = true;
            for (int i = 0; i < parts.count; i++) {
                add(node, parts.part[i]);
            }
        }

        private void add(int above, int cliqueSet) {
            if (nodes >= MOST_NODES) {
                return;
            }
            set[nodes] = cliqueSet;
            parent[nodes] = above;
            childCount[nodes] = 0;
            firm[nodes] = false;
            if (above != NONE) {
                slot[nodes] = childCount[above];
                childCount[above]++;
            }
            nodes++;
        }

        /** The node right below top on the way up from a clique; the root if top is NONE. */
        int below(int top, int k) {
            int node = leaf[k];
            for (int step = 0; step < MOST_NODES && parent[node] != top; step++) {
                if (parent[node] == NONE) {
                    break;
                }
                node = parent[node];
            }
            return node;
        }

        /** The lowest node that has all of a set of cliques, of which k is one. */
        int meeting(int k, int cliqueSet) {
            int node = leaf[k];
            for (int step = 0; step < MOST_NODES && !isWithin(cliqueSet, set[node]); step++) {
                if (parent[node] == NONE) {
                    break;
                }
                node = parent[node];
            }
            return node;
        }
    }

    /** The line. */
    private static final class FirstLine {
        private final int[] order = new int[MOST_PLACES];
        /** For each node the least clique with which its cliques can begin. */
        private final int[] least = new int[MOST_NODES];
        /** For each node the place of the first one of its cliques. */
        private final int[] start = new int[MOST_NODES];
        private int length;

        void lay(OrderTree tree) {
            length = 0;
            if (!tree.stands) {
                return;
            }
            // Children stand behind their parents in the tree's rows.
            for (int node = tree.nodes - 1; node >= 0; node--) {
                least[node] = leastBegin(tree, node);
            }
            for (int node = 0; node < tree.nodes; node++) {
                start[node] = startOf(tree, node);
                if (tree.childCount[node] == 0) {
                    order[start[node]] = least[node];
                    length++;
                }
            }
        }

        private int leastBegin(OrderTree tree, int node) {
            int children = tree.childCount[node];
            if (children == 0) {
                return lowest(tree.set[node]);
            }
            int child = tree.firstChild[node];
            if (tree.firm[node]) {
                return Math.min(least[child], least[child + children - 1]);
            }
            int answer = least[child];
            for (int i = 1; i < children; i++) {
                answer = Math.min(answer, least[child + i]);
            }
            return answer;
        }

        private int startOf(OrderTree tree, int node) {
            int parent = tree.parent[node];
            if (parent == NONE) {
                return 0;
            }
            int answer = start[parent];
            for (int i = 0; i < tree.childCount[parent]; i++) {
                int sibling = tree.firstChild[parent] + i;
                if (comesBefore(tree, sibling, node)) {
                    answer += Integer.bitCount(tree.set[sibling]);
                }
            }
            return answer;
        }

        private boolean comesBefore(OrderTree tree, int sibling, int node) {
            int parent = tree.parent[node];
            if (!tree.firm[parent]) {
                return least[sibling] < least[node];
            }
            boolean forward = least[tree.firstChild[parent]] == least[parent];
            return forward ? sibling < node : sibling > node;
        }
    }

    /** How many lines there are, of all kinds: shares of them all, as each node's choice is free. */
    private static final class LineCounts {
        private long total;

        void count(OrderTree tree) {
            total = tree.stands ? 1 : 0;
            for (int node = 0; node < tree.nodes && tree.stands; node++) {
                int most = tree.firm[node] ? 2 : tree.childCount[node];
                for (int factor = 2; factor <= most; factor++) {
                    total *= factor;
                }
            }
        }

        long beginWith(OrderTree tree, int k) {
            return atEnd(tree, total, k, NONE);
        }

        long nextTo(OrderTree tree, int k, int l) {
            int top = tree.meeting(k, (1 << k) | (1 << l));
            int gap = tree.slot[tree.below(top, k)] - tree.slot[tree.below(top, l)];
            long some;
            if (tree.firm[top]) {
                some = Math.abs(gap) == 1 ? total / 2 : 0;
            } else {
                some = share(total, tree.childCount[top]);
            }
            return atEnd(tree, atEnd(tree, some, k, top), l, top);
        }

        long amid(OrderTree tree, int k, int l, int j) {
            int top = tree.meeting(k, (1 << k) | (1 << l) | (1 << j));
            int a = tree.below(top, k);
            int b = tree.below(top, l);
            int c = tree.below(top, j);
            if (a == c) {
                return 0;
            }
            if (a == b || b == c) {
                return total / 2;
            }
            if (!tree.firm[top]) {
                return total / 3;
            }
            return (a < b) == (b < c) ? total : 0;
        }

        /** Of some lines those in which a clique stands at one given end of the node right below top. */
        private static long atEnd(OrderTree tree, long some, int k, int top) {
            long answer = some;
            int node = tree.leaf[k];
            for (int step = 0; step < MOST_NODES && tree.parent[node] != top; step++) {
                int up = tree.parent[node];
                if (up == NONE) {
                    break;
                }
                answer = share(answer, endChances(tree, up, tree.slot[node]));
                node = up;
            }
            return answer;
        }

        /** One of how many equal shares of a node's orders has the child at one given end; 0 if none. */
        private static int endChances(OrderTree tree, int node, int slot) {
            int children = tree.childCount[node];
            if (!tree.firm[node]) {
                return children;
            }
            return slot == 0 || slot == children - 1 ? 2 : 0;
        }

        private static long share(long some, int shares) {
            return shares > 0 ? some / shares : 0;
        }
    }
}
