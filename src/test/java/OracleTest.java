import java.util.ArrayList;
import java.util.Arrays;
import java.util.List;
import java.util.Random;

/**
 * Compares each answer with one that is worked out straight from the words of the document, by trying
 * all there is to try, over many graphs of several kinds. The graphs are the same in each run.
 */
public final class OracleTest {
    private static final int N = 14;
    private static final int GRAPHS = 630;
    private static final int SAMPLES = 40;
    private static final int MOST_CALLS = 512;

    private static int wrong = 0;
    private static int withLine = 0;
    private static int withHole = 0;
    private static int withTriple = 0;
    private static int withClaw = 0;

    private final boolean[][] linked = new boolean[N][N];
    private SpanGraph program = new SpanGraph();
    private int calls = 0;
    private final Random random;
    private List<Integer> cliques = new ArrayList<>();
    private List<Integer> bestHole = null;

    private OracleTest(Random random) {
        this.random = random;
    }

    public static void main(String[] args) {
        // One object for as many graphs as its calls reach, so that nothing of a former one may stay behind.
        OracleTest test = new OracleTest(new Random(20261115));
        for (int kind = 0; kind < GRAPHS && wrong < 20; kind++) {
            test.makeGraph(kind % 9);
            test.checkAll();
            test.turnSome(1 + kind % 4);
            test.checkAll();
            test.checkClear();
            if (kind % 4 == 0) {
                test.checkCleared();
            }
        }
        require(withLine > 200, "too few graphs have a line: " + withLine);
        require(withHole > 100, "too few graphs have a hole: " + withHole);
        require(withTriple > 100, "too few graphs have a triple: " + withTriple);
        require(withClaw > 50, "too few graphs have a line and a claw: " + withClaw);
        System.out.println(wrong == 0 ? "all answers are as worked out" : wrong + " are wrong");
        if (wrong != 0) {
            System.exit(1);
        }
    }

    private static void require(boolean holds, String text) {
        if (!holds) {
            wrong++;
            System.out.println(text);
        }
    }

    private void same(String call, long got, long want) {
        if (got != want) {
            wrong++;
            System.out.println(call + " answered " + got + ", due is " + want + " for " + told());
        }
    }

    private String told() {
        StringBuilder text = new StringBuilder();
        for (int u = 0; u < N; u++) {
            for (int v = u + 1; v < N; v++) {
                if (linked[u][v]) {
                    text.append(u).append('-').append(v).append(' ');
                }
            }
        }
        return text.toString();
    }

    // Graphs

    private void makeGraph(int kind) {
        switch (kind) {
            case 0 -> linkByChance(0.05 + 0.2 * random.nextDouble());
            case 1 -> linkByChance(0.2 + 0.75 * random.nextDouble());
            case 2 -> linkIntervals(8 + random.nextInt(40), 1 + random.nextInt(12));
            case 3 -> linkIntervals(60, 4 + random.nextInt(30));
            case 4 -> linkNested();
            case 5 -> {
                linkIntervals(30, 10);
                turnSome(1 + random.nextInt(2));
            }
            case 6 -> linkTree(1 + random.nextInt(N));
            case 7 -> linkRing(4 + random.nextInt(11), random.nextInt(4));
            default -> {
                linkNested();
                turnSome(1);
            }
        }
    }

    private void turn(int u, int v) {
        int now = program().link(u, v);
        linked[u][v] = !linked[u][v];
        linked[v][u] = linked[u][v];
        same("link(" + u + ", " + v + ")", now, linked[u][v] ? 1 : 0);
    }

    /** The object for one call more; a new one with the same links when it has been used for all it may. */
    private SpanGraph program() {
        if (calls == MOST_CALLS) {
            program = new SpanGraph();
            calls = linkAsBefore();
        }
        calls++;
        return program;
    }

    private int linkAsBefore() {
        int links = 0;
        for (int u = 0; u < N; u++) {
            for (int v = u + 1; v < N; v++) {
                if (linked[u][v]) {
                    program.link(u, v);
                    links++;
                }
            }
        }
        return links;
    }

    private void turnSome(int times) {
        for (int i = 0; i < times; i++) {
            int u = random.nextInt(N);
            int v = (u + 1 + random.nextInt(N - 1)) % N;
            turn(u, v);
        }
    }

    private void linkByChance(double chance) {
        for (int u = 0; u < N; u++) {
            for (int v = u + 1; v < N; v++) {
                if (random.nextDouble() < chance) {
                    turn(v, u);
                }
            }
        }
    }

    private void linkIntervals(int width, int longest) {
        int[] from = new int[N];
        int[] to = new int[N];
        for (int v = 0; v < N; v++) {
            from[v] = random.nextInt(width);
            to[v] = from[v] + random.nextInt(longest);
        }
        linkMeeting(from, to);
    }

    /** Intervals of which many lie within others, so that lines have much freedom. */
    private void linkNested() {
        int[] from = new int[N];
        int[] to = new int[N];
        for (int v = 0; v < N; v++) {
            int outer = random.nextInt(v + 2) - 1;
            int low = outer < 0 || outer >= v ? 0 : from[outer];
            int high = outer < 0 || outer >= v ? 1 << 20 : to[outer];
            int a = low + random.nextInt(high - low + 1);
            int b = low + random.nextInt(high - low + 1);
            from[v] = Math.min(a, b);
            to[v] = random.nextInt(3) == 0 ? from[v] : Math.max(a, b);
        }
        linkMeeting(from, to);
    }

    private void linkMeeting(int[] from, int[] to) {
        int[] name = names();
        for (int u = 0; u < N; u++) {
            for (int v = u + 1; v < N; v++) {
                if (from[u] <= to[v] && from[v] <= to[u]) {
                    turn(name[u], name[v]);
                }
            }
        }
    }

    private void linkTree(int vertices) {
        int[] name = names();
        for (int v = 1; v < vertices; v++) {
            turn(name[v], name[random.nextInt(v)]);
        }
    }

    private void linkRing(int length, int chords) {
        int[] name = names();
        for (int i = 0; i < length; i++) {
            turn(name[i], name[(i + 1) % length]);
        }
        turnSome(chords);
    }

    private int[] names() {
        int[] name = new int[N];
        for (int i = 0; i < N; i++) {
            int j = random.nextInt(i + 1);
            name[i] = name[j];
            name[j] = i;
        }
        return name;
    }

    private void checkAll() {
        checkCliques();
        checkHole();
        checkTriple();
        checkLines();
    }

    private void checkClear() {
        int links = 0;
        for (int u = 0; u < N; u++) {
            for (int v = u + 1; v < N; v++) {
                links += linked[u][v] ? 1 : 0;
            }
        }
        same("clear()", program().clear(), links);
        for (boolean[] row : linked) {
            Arrays.fill(row, false);
        }
    }

    /** Not behind each clear(), as the answers that it asks for would take the place of the former ones. */
    private void checkCleared() {
        same("lines() behind clear()", program().lines(), 87178291200L);
        same("hole(0) behind clear()", program().hole(0), -1);
        same("triple(0) behind clear()", program().triple(0), -1);
    }

    // Cliques

    private boolean isLinkedSet(int set) {
        for (int u = 0; u < N; u++) {
            for (int v = u + 1; v < N; v++) {
                if ((set >> u & 1) != 0 && (set >> v & 1) != 0 && !linked[u][v]) {
                    return false;
                }
            }
        }
        return true;
    }

    private void checkCliques() {
        List<Integer> sets = new ArrayList<>();
        for (int set = 1; set < 1 << N; set++) {
            if (isLinkedSet(set) && !canWiden(set)) {
                sets.add(set);
            }
        }
        cliques = sets;
        same("cliques()", program().cliques(), cliques.size());
        for (int k = 0; k < cliques.size(); k++) {
            same("clique(" + k + ")", program().clique(k), cliques.get(k));
        }
        same("clique(-1)", program().clique(-1), -1);
        same("clique(all)", program().clique(cliques.size()), -1);
    }

    private boolean canWiden(int set) {
        for (int v = 0; v < N; v++) {
            if ((set >> v & 1) == 0 && isLinkedSet(set | 1 << v)) {
                return true;
            }
        }
        return false;
    }

    // The hole

    private void checkHole() {
        bestHole = null;
        for (int v = 0; v < N; v++) {
            List<Integer> row = new ArrayList<>();
            row.add(v);
            extendHole(row);
        }
        int length = bestHole == null ? 0 : bestHole.size();
        withHole += length > 0 ? 1 : 0;
        for (int i = -1; i < N + 2; i++) {
            same("hole(" + i + ")", program().hole(i), i >= 0 && i < length ? bestHole.get(i) : -1);
        }
    }

    /** The row is a path without a chord, its first vertex the least. */
    private void extendHole(List<Integer> row) {
        int size = row.size();
        for (int v = row.get(0) + 1; v < N; v++) {
            if (row.contains(v) || !linked[row.get(size - 1)][v]) {
                continue;
            }
            boolean chord = false;
            for (int i = 1; i < size - 1; i++) {
                chord |= linked[row.get(i)][v];
            }
            if (chord) {
                continue;
            }
            row.add(v);
            if (size > 1 && linked[row.get(0)][v]) {
                if (size >= 3 && row.get(1) < v) {
                    offerHole(row);
                }
            } else {
                extendHole(row);
            }
            row.remove(size);
        }
    }

    private void offerHole(List<Integer> row) {
        boolean better = bestHole == null || row.size() < bestHole.size();
        if (!better && row.size() == bestHole.size()) {
            for (int i = 0; i < row.size(); i++) {
                int order = Integer.compare(row.get(i), bestHole.get(i));
                if (order != 0) {
                    better = order < 0;
                    break;
                }
            }
        }
        if (better) {
            bestHole = new ArrayList<>(row);
        }
    }

    // The triple

    private void checkTriple() {
        int[] corners = null;
        for (int a = 0; a < N && corners == null; a++) {
            for (int b = a + 1; b < N && corners == null; b++) {
                for (int c = b + 1; c < N && corners == null; c++) {
                    if (isTriple(a, b, c)) {
                        corners = new int[] {a, b, c};
                    }
                }
            }
        }
        withTriple += corners != null ? 1 : 0;
        for (int which = -1; which < 4; which++) {
            boolean there = corners != null && which >= 0 && which < 3;
            same("triple(" + which + ")", program().triple(which), there ? corners[which] : -1);
            int[] row = there ? shortest(corners, which) : new int[0];
            for (int i = -1; i <= N; i++) {
                int want = i >= 0 && i < row.length ? row[i] : -1;
                same("path(" + which + ", " + i + ")", program().path(which, i), want);
            }
        }
    }

    private boolean isTriple(int a, int b, int c) {
        if (linked[a][b] || linked[b][c] || linked[a][c]) {
            return false;
        }
        return reaches(a, b, c) && reaches(b, c, a) && reaches(a, c, b);
    }

    private boolean reaches(int from, int to, int third) {
        boolean[] seen = new boolean[N];
        seen[from] = true;
        for (int round = 0; round < N; round++) {
            for (int u = 0; u < N; u++) {
                for (int v = 0; v < N; v++) {
                    if (seen[u] && linked[u][v] && v != third && !linked[v][third]) {
                        seen[v] = true;
                    }
                }
            }
        }
        return seen[to];
    }

    private int[] shortest(int[] corners, int which) {
        int from = corners[which == 0 ? 1 : 0];
        int to = corners[which == 2 ? 1 : 2];
        for (int length = 2; length <= N; length++) {
            int[] row = new int[length];
            row[0] = from;
            if (fill(row, 1, to, corners[which])) {
                return row;
            }
        }
        return new int[0];
    }

    private boolean fill(int[] row, int next, int to, int third) {
        if (next == row.length) {
            return row[next - 1] == to;
        }
        for (int v = 0; v < N; v++) {
            if (linked[row[next - 1]][v] && v != third && !linked[v][third]) {
                row[next] = v;
                if (fill(row, next + 1, to, third)) {
                    return true;
                }
            }
        }
        return false;
    }

    // Lines

    private void checkLines() {
        int m = cliques.size();
        if (m > N) {
            checkWithoutLine(m);
            return;
        }
        LineOracle oracle = new LineOracle(cliques);
        same("lines()", program().lines(), oracle.total());
        if (m <= 7) {
            checkByOrders(m);
        }
        if (oracle.total() == 0) {
            checkWithoutLine(m);
            return;
        }
        withLine++;
        int[] first = oracle.first();
        for (int place = -1; place <= m; place++) {
            int want = place >= 0 && place < m ? first[place] : -1;
            same("at(" + place + ")", program().at(place), want);
        }
        checkSpans(first);
        for (int k = 0; k < m; k++) {
            same("begins(" + k + ")", program().begins(k), oracle.begins(k));
        }
        for (int i = 0; i < SAMPLES && m >= 2; i++) {
            int k = random.nextInt(m);
            int l = random.nextInt(m);
            same("follows(" + k + ", " + l + ")", program().follows(k, l), oracle.follows(k, l));
            int j = random.nextInt(m);
            same("between(" + k + ", " + l + ", " + j + ")",
                    program().between(k, l, j), oracle.between(k, l, j));
        }
        withClaw += hasClaw() ? 1 : 0;
        same("isProper()", program().isProper() ? 1 : 0, hasClaw() ? 0 : 1);
    }

    private void checkSpans(int[] first) {
        for (int v = -1; v <= N; v++) {
            int low = -1;
            int high = -1;
            for (int place = 0; place < first.length && v >= 0; place++) {
                if ((cliques.get(first[place]) >> v & 1) != 0) {
                    low = low < 0 ? place : low;
                    high = place;
                }
            }
            same("span(" + v + ", false)", program().span(v, false), low);
            same("span(" + v + ", true)", program().span(v, true), high);
        }
    }

    private void checkWithoutLine(int m) {
        boolean none = bestHole != null || program().triple(0) >= 0;
        same("a hole or a triple where there is no line", none ? 1 : 0, 1);
        same("lines()", program().lines(), 0);
        for (int i = -1; i <= m; i++) {
            boolean there = i >= 0 && i < m;
            int next = (i + 1) % m;
            int nextButOne = (i + 2) % m;
            same("at(" + i + ")", program().at(i), -1);
            same("span(" + i + ")", program().span(i, true), -1);
            same("begins(" + i + ")", program().begins(i), there ? 0 : -1);
            same("follows(" + i + ", next)", program().follows(i, next), there ? 0 : -1);
            same("between(" + i + ", ..)", program().between(next, i, nextButOne), there ? 0 : -1);
        }
        same("isProper()", program().isProper() ? 1 : 0, 0);
    }

    private boolean hasClaw() {
        for (int v = 0; v < N; v++) {
            for (int a = 0; a < N; a++) {
                for (int b = 0; b < a; b++) {
                    for (int c = 0; c < b; c++) {
                        boolean near = linked[v][a] && linked[v][b] && linked[v][c];
                        if (near && !linked[a][b] && !linked[b][c] && !linked[a][c]) {
                            return true;
                        }
                    }
                }
            }
        }
        return false;
    }

    /** All orders, one by one, where there are few cliques. */
    private void checkByOrders(int m) {
        long[] begin = new long[m];
        long[][] next = new long[m][m];
        long[][][] amid = new long[m][m][m];
        int[] order = new int[m];
        long total = countOrders(order, 0, begin, next, amid);
        same("lines()", program().lines(), total);
        for (int k = 0; k < m; k++) {
            same("begins(" + k + ")", program().begins(k), begin[k]);
            for (int l = 0; l < m; l++) {
                same("follows(" + k + ", " + l + ")", program().follows(k, l), k == l ? -1 : next[k][l]);
                for (int j = 0; j < m; j++) {
                    boolean three = k != l && l != j && k != j;
                    same("between(" + k + ", " + l + ", " + j + ")",
                            program().between(k, l, j), three ? amid[k][l][j] : -1);
                }
            }
        }
    }

    private long countOrders(int[] order, int used, long[] begin, long[][] next, long[][][] amid) {
        int m = order.length;
        if (used == m) {
            if (!isLine(order)) {
                return 0;
            }
            begin[order[0]]++;
            for (int p = 0; p + 1 < m; p++) {
                next[order[p]][order[p + 1]]++;
            }
            for (int p = 0; p < m; p++) {
                for (int q = p + 1; q < m; q++) {
                    for (int r = q + 1; r < m; r++) {
                        amid[order[p]][order[q]][order[r]]++;
                        amid[order[r]][order[q]][order[p]]++;
                    }
                }
            }
            return 1;
        }
        long total = 0;
        for (int k = 0; k < m; k++) {
            boolean free = true;
            for (int p = 0; p < used; p++) {
                free &= order[p] != k;
            }
            if (free) {
                order[used] = k;
                total += countOrders(order, used + 1, begin, next, amid);
            }
        }
        return total;
    }

    private boolean isLine(int[] order) {
        for (int v = 0; v < N; v++) {
            int runs = 0;
            boolean before = false;
            for (int k : order) {
                boolean now = (cliques.get(k) >> v & 1) != 0;
                runs += now && !before ? 1 : 0;
                before = now;
            }
            if (runs > 1) {
                return false;
            }
        }
        return true;
    }

    /**
     * Lines as ways through the sets of cliques that have been laid: the next one must have every vertex
     * of which some cliques have been laid and some not.
     */
    private static final class LineOracle {
        private final List<Integer> cliques;
        private final int full;
        private final long[] before;
        private final long[] behind;

        LineOracle(List<Integer> cliques) {
            this.cliques = cliques;
            full = (1 << cliques.size()) - 1;
            before = new long[full + 1];
            behind = new long[full + 1];
            before[0] = 1;
            for (int laid = 0; laid <= full; laid++) {
                for (int k = 0; k < cliques.size() && before[laid] > 0; k++) {
                    if (mayCome(laid, k)) {
                        before[laid | 1 << k] += before[laid];
                    }
                }
            }
            behind[full] = 1;
            for (int laid = full; laid >= 0; laid--) {
                for (int k = 0; k < cliques.size(); k++) {
                    if (mayCome(laid, k)) {
                        behind[laid] += behind[laid | 1 << k];
                    }
                }
            }
        }

        private int union(int laid) {
            int union = 0;
            for (int k = 0; k < cliques.size(); k++) {
                union |= (laid >> k & 1) != 0 ? cliques.get(k) : 0;
            }
            return union;
        }

        private boolean mayCome(int laid, int k) {
            if ((laid >> k & 1) != 0) {
                return false;
            }
            return (union(laid) & union(full & ~laid) & ~cliques.get(k)) == 0;
        }

        long total() {
            return before[full];
        }

        int[] first() {
            int[] order = new int[cliques.size()];
            Arrays.fill(order, -1);
            int laid = 0;
            for (int place = 0; place < order.length; place++) {
                for (int k = 0; k < order.length && order[place] < 0; k++) {
                    if (mayCome(laid, k) && behind[laid | 1 << k] > 0) {
                        order[place] = k;
                    }
                }
                laid |= 1 << order[place];
            }
            return order;
        }

        long begins(int k) {
            return behind[1 << k];
        }

        long follows(int k, int l) {
            if (k == l) {
                return -1;
            }
            long sum = 0;
            for (int laid = 0; laid <= full; laid++) {
                if (before[laid] > 0 && mayCome(laid, k) && mayCome(laid | 1 << k, l)) {
                    sum += before[laid] * behind[laid | 1 << k | 1 << l];
                }
            }
            return sum;
        }

        long between(int k, int l, int j) {
            if (k == l || l == j || k == j) {
                return -1;
            }
            long sum = 0;
            for (int laid = 0; laid <= full; laid++) {
                boolean one = (laid >> k & 1) != (laid >> j & 1);
                if (one && before[laid] > 0 && mayCome(laid, l)) {
                    sum += before[laid] * behind[laid | 1 << l];
                }
            }
            return sum;
        }
    }
}
