import java.util.Arrays;
import java.util.stream.IntStream;

/** Graphs whose answers are known by hand, and numbers that are out of a range. */
final class Graphs {
    static final int VERTICES = 14;
    static final int ALL = (1 << VERTICES) - 1;

    private static final int[] FAR = {
        Integer.MIN_VALUE, Integer.MIN_VALUE + 1, -(1 << 30), -65536, -256, -162, -64, -33, -32, -31, -16, -15,
        -14, -13, -3, -2, -1, 14, 15, 16, 28, 31, 32, 33, 46, 64, 128, 162, 256, 65536, 1 << 30,
        Integer.MAX_VALUE - 1, Integer.MAX_VALUE
    };

    private Graphs() {
    }

    /** Numbers below 0, and count and more: just out of 0 .. count - 1, further out, and the outermost. */
    static int[] outside(int count) {
        IntStream near = IntStream.of(-1, -count, count, count + 1, count + 2, 2 * count);
        IntStream both = IntStream.concat(near, Arrays.stream(FAR));
        return both.filter(n -> n < 0 || n >= count).distinct().toArray();
    }

    static long factorial(int n) {
        return n < 2 ? 1 : n * factorial(n - 1);
    }

    static Asked none() {
        return new Asked("no links");
    }

    static Asked all() {
        return clump(VERTICES);
    }

    /** 0 .. n - 1, each two of them linked; the others alone. */
    static Asked clump(int n) {
        Asked graph = new Asked("a clump of " + n);
        for (int u = 0; u < n; u++) {
            for (int v = 0; v < u; v++) {
                graph.link(u, v, 1);
            }
        }
        return graph;
    }

    /** All links but one: two cliques. */
    static Asked allButOne(int u, int v) {
        return all().link(u, v, 0);
    }

    /** All links but those among 0, 1 and 2: three cliques, in any order. */
    static Asked allButTriangle() {
        return all().link(0, 1, 0).link(1, 2, 0).link(0, 2, 0);
    }

    /** All links but those that a path 0, 1, 2, 3 has not: three cliques, one of them in the middle. */
    static Asked allButPath() {
        return all().link(0, 2, 0).link(0, 3, 0).link(1, 3, 0);
    }

    /** From the first vertex on, each linked to the next one. */
    static Asked path(int first, int n) {
        Asked graph = new Asked("a path of " + n + " from " + first);
        for (int v = first; v < first + n - 1; v++) {
            graph.link(v, v + 1, 1);
        }
        return graph;
    }

    static Asked ring(int first, int n) {
        return path(first, n).link(first + n - 1, first, 1);
    }

    /** Vertex 13 linked to 0 .. n - 1. */
    static Asked star(int n) {
        Asked graph = new Asked("a star of " + n);
        for (int v = 0; v < n; v++) {
            graph.link(13, v, 1);
        }
        return graph;
    }

    /** Three legs of two links from vertex 0, to 2, 4 and 6: no hole, 13 cliques, the triple 2, 4, 6. */
    static Asked legs() {
        return new Asked("legs").linkAll(0, 1, 1, 2, 0, 3, 3, 4, 0, 5, 5, 6);
    }

    /** Legs of two, two and nine links from vertex 13, to 1, 2 and 0: its paths are the longest there are. */
    static Asked longLegs() {
        return new Asked("long legs").linkAll(13, 3, 3, 1, 13, 4, 4, 2, 13, 5, 5, 6, 6, 7, 7, 8, 8, 9, 9, 10,
                10, 11, 11, 12, 12, 0);
    }

    /** A triangle 10, 11, 12 with the ends 3, 2 and 1: no hole, no claw, the triple 1, 2, 3. */
    static Asked net() {
        return new Asked("a net").linkAll(10, 11, 11, 12, 12, 10, 10, 3, 11, 2, 12, 1);
    }

    /** Groups of so many vertices, linked but within a group. */
    static Asked groups(int size) {
        Asked graph = new Asked("groups of " + size);
        for (int u = 0; u < VERTICES; u++) {
            for (int v = u + 1; v < VERTICES; v++) {
                if (u / size != v / size) {
                    graph.link(u, v, 1);
                }
            }
        }
        return graph;
    }
}
