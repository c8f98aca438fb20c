/**
 * Each promise of the document by hand: ordinary inputs, the edges that it names, and wrong inputs. The
 * method p7 tests promise 7, and so on.
 */
public final class PromiseTest {
    private static final int NONE = -1;
    private static final int[] STRANGE = {
        -1, -2, -14, -32, 15, 16, 31, 32, 33, 64, 1 << 30, Integer.MAX_VALUE, Integer.MIN_VALUE
    };
    private static final long ALL_ORDERS = 87178291200L;

    private static int wrong = 0;

    public static void main(String[] args) {
        p1NewObject();
        p2Link();
        p3Clear();
        p4Hole();
        p4ShortestHoleFirst();
        p5Triple();
        p6Path();
        p7Cliques();
        p8Clique();
        p9Lines();
        p10At();
        p11Span();
        p12Begins();
        p13Follows();
        p14Between();
        p15IsProper();
        strangeNumbers();
        callsInAnyOrder();
        System.out.println(wrong == 0 ? "all promises hold" : wrong + " answers are wrong");
        if (wrong != 0) {
            System.exit(1);
        }
    }

    private static void due(String call, long got, long want) {
        if (got != want) {
            wrong++;
            System.out.println(call + " answered " + got + ", due is " + want);
        }
    }

    private static void due(String call, boolean got, boolean want) {
        due(call, got ? 1 : 0, want ? 1 : 0);
    }

    /** A graph told by its links, two vertices each. */
    private static SpanGraph graph(int... ends) {
        SpanGraph graph = new SpanGraph();
        for (int i = 0; i + 1 < ends.length; i += 2) {
            due("link(" + ends[i] + ", " + ends[i + 1] + ")", graph.link(ends[i], ends[i + 1]), 1);
        }
        return graph;
    }

    private static SpanGraph complete() {
        SpanGraph graph = new SpanGraph();
        for (int u = 0; u < 14; u++) {
            for (int v = 0; v < u; v++) {
                graph.link(u, v);
            }
        }
        return graph;
    }

    private static SpanGraph longPath() {
        return graph(0, 1, 1, 2, 2, 3, 3, 4, 4, 5, 5, 6, 6, 7, 7, 8, 8, 9, 9, 10, 10, 11, 11, 12, 12, 13);
    }

    private static SpanGraph star() {
        return graph(13, 0, 13, 1, 13, 2, 13, 3, 13, 4, 13, 5, 13, 6, 13, 7, 13, 8, 13, 9, 13, 10, 13, 11,
                13, 12);
    }

    /** Three legs of two links each from vertex 0; 7 .. 13 alone. */
    private static SpanGraph legs() {
        return graph(0, 1, 1, 2, 0, 3, 3, 4, 0, 5, 5, 6);
    }

    private static void holeIs(String name, SpanGraph graph, int... want) {
        for (int i = 0; i < 16; i++) {
            due(name + ": hole(" + i + ")", graph.hole(i), i < want.length ? want[i] : NONE);
        }
        due(name + ": hole(-1)", graph.hole(-1), NONE);
    }

    private static void tripleIs(String name, SpanGraph graph, int... want) {
        for (int which = 0; which < 3; which++) {
            int corner = want.length == 3 ? want[which] : NONE;
            due(name + ": triple(" + which + ")", graph.triple(which), corner);
        }
        due(name + ": triple(-1)", graph.triple(-1), NONE);
        due(name + ": triple(3)", graph.triple(3), NONE);
    }

    private static void pathIs(String name, SpanGraph graph, int which, int... want) {
        for (int i = 0; i < 16; i++) {
            int vertex = i < want.length ? want[i] : NONE;
            due(name + ": path(" + which + ", " + i + ")", graph.path(which, i), vertex);
        }
        due(name + ": path(" + which + ", -1)", graph.path(which, -1), NONE);
    }

    private static void lineIs(String name, SpanGraph graph, int... want) {
        for (int place = 0; place < 16; place++) {
            int k = place < want.length ? want[place] : NONE;
            due(name + ": at(" + place + ")", graph.at(place), k);
        }
        due(name + ": at(-1)", graph.at(-1), NONE);
    }

    private static void p1NewObject() {
        SpanGraph graph = new SpanGraph();
        due("new: cliques()", graph.cliques(), 14);
        due("new: lines()", graph.lines(), ALL_ORDERS);
        for (int v = 0; v < 14; v++) {
            due("new: clique(" + v + ")", graph.clique(v), 1 << v);
        }
        due("new: clear()", graph.clear(), 0);
        SpanGraph other = new SpanGraph();
        other.link(0, 1);
        due("two objects: clear()", graph.clear(), 0);
        due("two objects: clear() of the other", other.clear(), 1);
    }

    private static void p2Link() {
        SpanGraph graph = new SpanGraph();
        for (int u = 0; u < 14; u++) {
            for (int v = 0; v < 14; v++) {
                String call = "link(" + u + ", " + v + ")";
                if (u == v) {
                    due(call, graph.link(u, v), NONE);
                } else {
                    due(call, graph.link(u, v), 1);
                    due(call + " again", graph.link(v, u), 0);
                }
            }
        }
        due("link(0, 14)", graph.link(0, 14), NONE);
        due("link(14, 0)", graph.link(14, 0), NONE);
        due("link(-1, 13)", graph.link(-1, 13), NONE);
        due("link(13, -1)", graph.link(13, -1), NONE);
        due("link(14, 14)", graph.link(14, 14), NONE);
        due("link(0, 32)", graph.link(0, 32), NONE);
        due("none linked: clear()", graph.clear(), 0);
        due("none linked: cliques()", graph.cliques(), 14);
    }

    private static void p3Clear() {
        SpanGraph graph = complete();
        due("complete: clear()", graph.clear(), 91);
        due("complete: clear() again", graph.clear(), 0);
        due("link(2, 7) behind clear()", graph.link(2, 7), 1);
        due("link(7, 9) behind clear()", graph.link(7, 9), 1);
        due("link(9, 7) behind clear()", graph.link(9, 7), 0);
        due("one link: clear()", graph.clear(), 1);
        SpanGraph ring = graph(0, 1, 1, 2, 2, 3, 3, 0);
        holeIs("ring of 4", ring, 0, 1, 2, 3);
        due("ring of 4: lines()", ring.lines(), 0);
        due("ring of 4: clear()", ring.clear(), 4);
        holeIs("ring of 4 behind clear()", ring);
        due("ring of 4 behind clear(): lines()", ring.lines(), ALL_ORDERS);
    }

    private static void p4Hole() {
        holeIs("new", new SpanGraph());
        holeIs("complete", complete());
        holeIs("triangle", graph(0, 1, 1, 2, 2, 0));
        holeIs("path", longPath());
        SpanGraph ring = longPath();
        ring.link(13, 0);
        holeIs("ring of all", ring, 0, 1, 2, 3, 4, 5, 6, 7, 8, 9, 10, 11, 12, 13);
        holeIs("ring, lesser neighbour last", graph(9, 4, 4, 12, 12, 5, 5, 9), 4, 9, 5, 12);
        holeIs("ring of 5", graph(3, 13, 13, 7, 7, 4, 4, 8, 8, 3), 3, 8, 4, 7, 13);
        SpanGraph chord = graph(0, 1, 1, 2, 2, 3, 3, 0, 1, 3);
        holeIs("ring with a chord", chord);
        due("chord away", chord.link(3, 1), 0);
        holeIs("chord away", chord, 0, 1, 2, 3);
    }

    private static void p4ShortestHoleFirst() {
        SpanGraph two = graph(0, 1, 1, 2, 2, 3, 3, 4, 4, 0, 10, 11, 11, 12, 12, 13, 13, 10);
        holeIs("a ring of 5 and a later one of 4", two, 10, 11, 12, 13);
        SpanGraph equal = graph(6, 7, 7, 8, 8, 9, 9, 6, 2, 13, 13, 3, 3, 12, 12, 2);
        holeIs("two rings of 4", equal, 2, 12, 3, 13);
        // From 0 by 1 both 2 and 3 lead round to 4, and from 0 by 1 and 2 both 4 and 5 are last.
        holeIs("middle", graph(0, 1, 1, 2, 1, 3, 2, 4, 3, 4, 4, 0), 0, 1, 2, 4);
        holeIs("last", graph(0, 1, 1, 2, 2, 4, 2, 5, 4, 0, 5, 0), 0, 1, 2, 4);
        // The last vertex may be less than a middle one, and the lesser middle one counts first.
        holeIs("middle before last", graph(0, 1, 1, 9, 9, 3, 3, 0, 1, 8, 8, 12, 12, 0), 0, 1, 8, 12);
        holeIs("wheel", graph(0, 1, 1, 2, 2, 3, 3, 4, 4, 0, 5, 0, 5, 1, 5, 2, 5, 3, 5, 4), 0, 1, 2, 3, 4);
    }

    private static void p5Triple() {
        tripleIs("new", new SpanGraph());
        tripleIs("complete", complete());
        tripleIs("path", longPath());
        tripleIs("star", star());
        tripleIs("ring of 5", graph(0, 1, 1, 2, 2, 3, 3, 4, 4, 0));
        tripleIs("ring of 6", graph(0, 1, 1, 2, 2, 3, 3, 4, 4, 5, 5, 0), 0, 2, 4);
        tripleIs("legs", legs(), 2, 4, 6);
        tripleIs("net", graph(10, 11, 11, 12, 12, 10, 10, 3, 11, 2, 12, 1), 1, 2, 3);
        tripleIs("sun", graph(0, 1, 1, 2, 2, 0, 3, 0, 3, 1, 4, 1, 4, 2, 5, 2, 5, 0), 3, 4, 5);
        SpanGraph twoNets = graph(0, 1, 1, 2, 2, 0, 0, 11, 1, 12, 2, 13, 5, 6, 6, 7, 7, 5, 5, 8, 6, 9, 7, 10);
        tripleIs("two nets", twoNets, 8, 9, 10);
        due("two nets, one cut", twoNets.link(9, 6), 0);
        tripleIs("two nets, one cut", twoNets, 11, 12, 13);
        SpanGraph longer = legs();
        longer.link(6, 7);
        tripleIs("legs, one longer", longer, 2, 4, 6);
    }

    private static void p6Path() {
        for (int which = 0; which < 3; which++) {
            pathIs("new", new SpanGraph(), which);
            pathIs("path", longPath(), which);
        }
        SpanGraph legs = legs();
        pathIs("legs", legs, 0, 4, 3, 0, 5, 6);
        pathIs("legs", legs, 1, 2, 1, 0, 5, 6);
        pathIs("legs", legs, 2, 2, 1, 0, 3, 4);
        pathIs("legs", legs, -1);
        pathIs("legs", legs, 3);
        SpanGraph sun = graph(0, 1, 1, 2, 2, 0, 3, 0, 3, 1, 4, 1, 4, 2, 5, 2, 5, 0);
        pathIs("sun", sun, 0, 4, 2, 5);
        pathIs("sun", sun, 1, 3, 0, 5);
        pathIs("sun", sun, 2, 3, 1, 4);
        // From 0 by 3 or 4 to 13 and on by 5 or 6 to 1; the shorter way by 12 is closed by its link to 2.
        SpanGraph choice = graph(0, 3, 0, 4, 3, 13, 4, 13, 1, 5, 1, 6, 5, 13, 6, 13, 2, 7, 7, 13,
                12, 0, 12, 1, 12, 2);
        tripleIs("choice", choice, 0, 1, 2);
        pathIs("choice", choice, 0, 1, 5, 13, 7, 2);
        pathIs("choice", choice, 1, 0, 3, 13, 7, 2);
        pathIs("choice", choice, 2, 0, 3, 13, 5, 1);
        due("choice, 12 away from 2", choice.link(2, 12), 0);
        pathIs("choice, 12 away from 2", choice, 2, 0, 12, 1);
    }

    private static void p7Cliques() {
        due("new: cliques()", new SpanGraph().cliques(), 14);
        due("complete: cliques()", complete().cliques(), 1);
        due("path: cliques()", longPath().cliques(), 13);
        due("star: cliques()", star().cliques(), 13);
        due("triangle: cliques()", graph(0, 1, 1, 2, 2, 0).cliques(), 12);
        due("most: cliques()", mostCliques().cliques(), 162);
    }

    /** Groups of 3, 3, 3, 3 and 2, linked but within a group: no graph of 14 vertices has more cliques. */
    private static SpanGraph mostCliques() {
        SpanGraph graph = new SpanGraph();
        for (int u = 0; u < 14; u++) {
            for (int v = u + 1; v < 14; v++) {
                if (u / 3 != v / 3) {
                    graph.link(u, v);
                }
            }
        }
        return graph;
    }

    private static void p8Clique() {
        due("complete: clique(0)", complete().clique(0), 16383);
        due("complete: clique(1)", complete().clique(1), NONE);
        SpanGraph graph = graph(0, 13, 1, 2, 2, 3, 3, 1, 3, 4);
        int[] want = {14, 24, 32, 64, 128, 256, 512, 1024, 2048, 4096, 8193};
        for (int k = -1; k < 20; k++) {
            int set = k >= 0 && k < want.length ? want[k] : NONE;
            due("clique(" + k + ")", graph.clique(k), set);
        }
        SpanGraph most = mostCliques();
        due("most: clique(0)", most.clique(0), 1 + 8 + 64 + 512 + 4096);
        due("most: clique(1)", most.clique(1), 2 + 8 + 64 + 512 + 4096);
        due("most: clique(161)", most.clique(161), 4 + 32 + 256 + 2048 + 8192);
        due("most: clique(162)", most.clique(162), NONE);
        for (int k = 1; k < 162; k++) {
            due("most: clique(" + k + ") behind the one before", most.clique(k) > most.clique(k - 1), true);
        }
    }

    private static void p9Lines() {
        due("new: lines()", new SpanGraph().lines(), ALL_ORDERS);
        due("complete: lines()", complete().lines(), 1);
        due("path: lines()", longPath().lines(), 2);
        due("star: lines()", star().lines(), 6227020800L);
        due("legs: lines()", legs().lines(), 0);
        due("most: lines()", mostCliques().lines(), 0);
        due("ring of 4: lines()", graph(0, 1, 1, 2, 2, 3, 3, 0).lines(), 0);
        // A path of 3 links, and 10 alone: 11 pieces in any order, one of them in 2 ways.
        due("path of 4: lines()", graph(0, 1, 1, 2, 2, 3).lines(), 39916800L * 2);
        due("caterpillar: lines()", caterpillar().lines(), 2 * 24 * 6);
    }

    /** A path 1, 2, 3, 4, 11, 12, 13, with four more ends at 1 and three at 2. */
    private static SpanGraph caterpillar() {
        return graph(0, 1, 1, 2, 2, 3, 3, 4, 1, 5, 1, 6, 1, 7, 2, 8, 2, 9, 2, 10, 4, 11, 11, 12, 12, 13);
    }

    private static void p10At() {
        lineIs("new", new SpanGraph(), 0, 1, 2, 3, 4, 5, 6, 7, 8, 9, 10, 11, 12, 13);
        lineIs("complete", complete(), 0);
        lineIs("path", longPath(), 0, 1, 2, 3, 4, 5, 6, 7, 8, 9, 10, 11, 12);
        lineIs("legs", legs());
        lineIs("ring of 4", graph(0, 1, 1, 2, 2, 3, 3, 0));
        lineIs("most", mostCliques());
        // The path 1, 0, 8, 4 has the cliques 0 (as a set 3), 6 (257) and 7 (272); the others are alone.
        lineIs("path turned", graph(4, 8, 8, 0, 0, 1), 0, 6, 7, 1, 2, 3, 4, 5, 8, 9, 10, 11, 12);
        // The middle clique of a path is the least one: the line begins with a lone vertex.
        lineIs("middle least", graph(0, 1, 0, 12, 1, 13), 1, 2, 3, 4, 5, 6, 7, 8, 9, 10, 11, 0, 12);
    }

    private static void p11Span() {
        SpanGraph graph = graph(4, 8, 8, 0, 0, 1);
        int[] from = {0, 0, 3, 4, 2, 5, 6, 7, 1, 8, 9, 10, 11, 12};
        int[] to = {1, 0, 3, 4, 2, 5, 6, 7, 2, 8, 9, 10, 11, 12};
        for (int v = 0; v < 14; v++) {
            due("span(" + v + ", false)", graph.span(v, false), from[v]);
            due("span(" + v + ", true)", graph.span(v, true), to[v]);
        }
        due("star: span(13, false)", star().span(13, false), 0);
        due("star: span(13, true)", star().span(13, true), 12);
        due("star: span(5, true)", star().span(5, true), 5);
        due("complete: span(9, true)", complete().span(9, true), 0);
        for (boolean last : new boolean[] {false, true}) {
            due("span(-1)", graph.span(-1, last), NONE);
            due("span(14)", graph.span(14, last), NONE);
            due("legs: span(0)", legs().span(0, last), NONE);
            due("legs: span(14)", legs().span(14, last), NONE);
            due("most: span(13)", mostCliques().span(13, last), NONE);
        }
    }

    private static void p12Begins() {
        due("new: begins(13)", new SpanGraph().begins(13), 6227020800L);
        due("new: begins(14)", new SpanGraph().begins(14), NONE);
        due("new: begins(-1)", new SpanGraph().begins(-1), NONE);
        due("complete: begins(0)", complete().begins(0), 1);
        due("complete: begins(1)", complete().begins(1), NONE);
        SpanGraph path = longPath();
        for (int k = 0; k < 13; k++) {
            due("path: begins(" + k + ")", path.begins(k), k == 0 || k == 12 ? 1 : 0);
        }
        due("path: begins(13)", path.begins(13), NONE);
        due("legs: begins(12)", legs().begins(12), 0);
        due("legs: begins(13)", legs().begins(13), NONE);
        due("most: begins(161)", mostCliques().begins(161), 0);
        due("most: begins(162)", mostCliques().begins(162), NONE);
        // Clique 0 is {0, 1}: one of four ends at vertex 1, which is at one end of the rest.
        due("caterpillar: begins(0)", caterpillar().begins(0), 24 * 6 / 4);
    }

    private static void p13Follows() {
        SpanGraph none = new SpanGraph();
        due("new: follows(13, 0)", none.follows(13, 0), 6227020800L);
        due("new: follows(4, 4)", none.follows(4, 4), NONE);
        due("new: follows(4, 14)", none.follows(4, 14), NONE);
        due("new: follows(14, 4)", none.follows(14, 4), NONE);
        due("new: follows(-1, 4)", none.follows(-1, 4), NONE);
        due("new: follows(4, -1)", none.follows(4, -1), NONE);
        SpanGraph path = longPath();
        for (int k = 0; k < 13; k++) {
            for (int l = 0; l < 13; l++) {
                int want = k == l ? NONE : Math.abs(k - l) == 1 ? 1 : 0;
                due("path: follows(" + k + ", " + l + ")", path.follows(k, l), want);
            }
        }
        due("complete: follows(0, 1)", complete().follows(0, 1), NONE);
        due("legs: follows(3, 4)", legs().follows(3, 4), 0);
        due("legs: follows(3, 3)", legs().follows(3, 3), NONE);
        due("legs: follows(3, 13)", legs().follows(3, 13), NONE);
        due("most: follows(0, 161)", mostCliques().follows(0, 161), 0);
        // Path 0 - 1 - 2 - 3 and ten alone: cliques {0,1}, {1,2}, {2,3}, {4} ..
        SpanGraph some = graph(0, 1, 1, 2, 2, 3);
        due("some: follows(0, 1)", some.follows(0, 1), 39916800L);
        due("some: follows(0, 2)", some.follows(0, 2), 0);
        due("some: follows(2, 3)", some.follows(2, 3), 3628800L);
        due("some: follows(1, 3)", some.follows(1, 3), 0);
        due("some: follows(3, 4)", some.follows(3, 4), 3628800L * 2);
    }

    private static void p14Between() {
        SpanGraph none = new SpanGraph();
        due("new: between(13, 0, 6)", none.between(13, 0, 6), ALL_ORDERS / 3);
        due("new: between(1, 1, 2)", none.between(1, 1, 2), NONE);
        due("new: between(1, 2, 2)", none.between(1, 2, 2), NONE);
        due("new: between(1, 2, 1)", none.between(1, 2, 1), NONE);
        due("new: between(14, 1, 2)", none.between(14, 1, 2), NONE);
        due("new: between(1, 14, 2)", none.between(1, 14, 2), NONE);
        due("new: between(1, 2, 14)", none.between(1, 2, 14), NONE);
        due("new: between(-1, 1, 2)", none.between(-1, 1, 2), NONE);
        due("new: between(1, -1, 2)", none.between(1, -1, 2), NONE);
        due("new: between(1, 2, -1)", none.between(1, 2, -1), NONE);
        SpanGraph path = longPath();
        due("path: between(0, 6, 12)", path.between(0, 6, 12), 2);
        due("path: between(12, 6, 0)", path.between(12, 6, 0), 2);
        due("path: between(6, 0, 12)", path.between(6, 0, 12), 0);
        due("path: between(0, 12, 6)", path.between(0, 12, 6), 0);
        due("legs: between(0, 1, 2)", legs().between(0, 1, 2), 0);
        due("legs: between(0, 1, 13)", legs().between(0, 1, 13), NONE);
        due("most: between(0, 80, 161)", mostCliques().between(0, 80, 161), 0);
        due("most: between(0, 80, 80)", mostCliques().between(0, 80, 80), NONE);
        SpanGraph some = graph(0, 1, 1, 2, 2, 3);
        due("some: between(0, 1, 2)", some.between(0, 1, 2), 79833600L);
        due("some: between(0, 1, 3)", some.between(0, 1, 3), 39916800L);
        due("some: between(3, 1, 0)", some.between(3, 1, 0), 39916800L);
        due("some: between(0, 3, 2)", some.between(0, 3, 2), 0);
        due("some: between(0, 3, 4)", some.between(0, 3, 4), 79833600L / 3);
    }

    private static void p15IsProper() {
        due("new: isProper()", new SpanGraph().isProper(), true);
        due("complete: isProper()", complete().isProper(), true);
        due("path: isProper()", longPath().isProper(), true);
        due("star: isProper()", star().isProper(), false);
        due("ring of 4: isProper()", graph(0, 1, 1, 2, 2, 3, 3, 0).isProper(), false);
        due("net: isProper()", graph(0, 1, 1, 2, 2, 0, 0, 3, 1, 4, 2, 5).isProper(), false);
        SpanGraph claw = graph(5, 0, 5, 12, 5, 13);
        due("claw: isProper()", claw.isProper(), false);
        due("claw, two ends linked", claw.link(13, 0), 1);
        due("claw, two ends linked: isProper()", claw.isProper(), true);
    }

    private static void strangeNumbers() {
        SpanGraph[] graphs = {new SpanGraph(), legs(), complete(), mostCliques(), longPath()};
        for (SpanGraph graph : graphs) {
            long lines = graph.lines();
            for (int odd : STRANGE) {
                due("link(" + odd + ", 0)", graph.link(odd, 0), NONE);
                due("link(0, " + odd + ")", graph.link(0, odd), NONE);
                due("hole(" + odd + ")", graph.hole(odd), NONE);
                due("triple(" + odd + ")", graph.triple(odd), NONE);
                due("path(" + odd + ", 0)", graph.path(odd, 0), NONE);
                due("path(0, " + odd + ")", graph.path(0, odd), NONE);
                due("at(" + odd + ")", graph.at(odd), NONE);
                due("span(" + odd + ")", graph.span(odd, true), NONE);
                if (odd < 0 || odd >= graph.cliques()) {
                    due("clique(" + odd + ")", graph.clique(odd), NONE);
                    due("begins(" + odd + ")", graph.begins(odd), NONE);
                    due("follows(" + odd + ", 0)", graph.follows(odd, 0), NONE);
                    due("follows(0, " + odd + ")", graph.follows(0, odd), NONE);
                    due("between(0, " + odd + ", 1)", graph.between(0, odd, 1), NONE);
                }
            }
            due("lines() behind strange numbers", graph.lines(), lines);
        }
    }

    /** Whichever question comes first behind a change, it is answered for the graph as it is then. */
    private static void callsInAnyOrder() {
        for (int first = 0; first < 6; first++) {
            SpanGraph graph = new SpanGraph();
            for (int round = 0; round < 3; round++) {
                graph.link(0, 1);
                graph.link(1, 2);
                graph.link(2, 3);
                int there = graph.link(3, 0);
                for (int i = 0; i < 6; i++) {
                    askOne((first + i) % 6, graph, there == 1);
                }
            }
        }
    }

    private static void askOne(int question, SpanGraph graph, boolean ring) {
        switch (question) {
            case 0 -> due("turns: hole(3)", graph.hole(3), ring ? 3 : NONE);
            case 1 -> due("turns: lines()", graph.lines(), ring ? 0 : ALL_ORDERS);
            case 2 -> due("turns: clique(0)", graph.clique(0), ring ? 3 : 1);
            case 3 -> due("turns: at(1)", graph.at(1), ring ? NONE : 1);
            case 4 -> due("turns: isProper()", graph.isProper(), !ring);
            default -> due("turns: begins(2)", graph.begins(2), ring ? 0 : ALL_ORDERS / 14);
        }
    }
}
