/**
 * An object of SpanGraph, each answer of which is compared with the one that is due. A test that uses it
 * for more calls than the document allows is itself wrong.
 */
final class Asked {
    static final int NONE = -1;
    static final int MOST_CALLS = 512;

    private static int wrong = 0;

    private final SpanGraph graph = new SpanGraph();
    private final String name;
    private int calls = 0;

    Asked(String name) {
        this.name = name;
    }

    /** To be called last: ends the test with exit code 1 if an answer was wrong. */
    static void end(String allWell) {
        System.out.println(wrong == 0 ? allWell : wrong + " answers are wrong");
        if (wrong != 0) {
            System.exit(1);
        }
    }

    int calls() {
        return calls;
    }

    Asked link(int u, int v, int want) {
        return due("link(" + u + ", " + v + ")", graph.link(u, v), want);
    }

    /** Links that were not there yet, two vertices each. */
    Asked linkAll(int... ends) {
        for (int i = 0; i + 1 < ends.length; i += 2) {
            link(ends[i], ends[i + 1], 1);
        }
        return this;
    }

    Asked clear(int want) {
        return due("clear()", graph.clear(), want);
    }

    Asked hole(int i, int want) {
        return due("hole(" + i + ")", graph.hole(i), want);
    }

    Asked triple(int which, int want) {
        return due("triple(" + which + ")", graph.triple(which), want);
    }

    Asked path(int which, int i, int want) {
        return due("path(" + which + ", " + i + ")", graph.path(which, i), want);
    }

    Asked cliques(int want) {
        return due("cliques()", graph.cliques(), want);
    }

    Asked clique(int k, int want) {
        return due("clique(" + k + ")", graph.clique(k), want);
    }

    Asked lines(long want) {
        return due("lines()", graph.lines(), want);
    }

    Asked at(int place, int want) {
        return due("at(" + place + ")", graph.at(place), want);
    }

    Asked span(int v, boolean last, int want) {
        return due("span(" + v + ", " + last + ")", graph.span(v, last), want);
    }

    Asked begins(int k, long want) {
        return due("begins(" + k + ")", graph.begins(k), want);
    }

    Asked follows(int k, int l, long want) {
        return due("follows(" + k + ", " + l + ")", graph.follows(k, l), want);
    }

    Asked between(int k, int l, int j, long want) {
        return due("between(" + k + ", " + l + ", " + j + ")", graph.between(k, l, j), want);
    }

    Asked isProper(boolean want) {
        return due("isProper()", graph.isProper() ? 1 : 0, want ? 1 : 0);
    }

    private Asked due(String call, long got, long want) {
        calls++;
        if (got != want) {
            fault(call + " answered " + got + ", due is " + want);
        }
        if (calls == MOST_CALLS + 1) {
            fault(call + " is beyond the last call that an object is used for");
        }
        return this;
    }

    private void fault(String text) {
        wrong++;
        System.out.println(name + ", call " + calls + ": " + text);
    }
}
