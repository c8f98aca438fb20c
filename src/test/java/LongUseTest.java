/**
 * What it is: "An object is used for at most 512 calls after it has been made": up to the last of these calls
 * each answer is as due, whatever the calls before were.
 */
public final class LongUseTest {
    private static final int NONE = Asked.NONE;
    private static final int MOST_CALLS = Asked.MOST_CALLS;
    private static final int METHODS = 14;
    /** Methods 0 and 1 change the graph; the others only ask. */
    private static final int FIRST_QUESTION = 2;

    public static void main(String[] args) {
        allCallsLink();
        allCallsClear();
        allCallsAreRefused();
        for (int method = 0; method < METHODS; method++) {
            lastCallBehindLinks(method, false);
            lastCallBehindLinks(method, true);
            lastCallBehindQuestions(method);
        }
        for (int question = FIRST_QUESTION; question < METHODS; question++) {
            allCallsAskTheSame(question);
            everySecondCallChanges(question);
        }
        nothingStaysOfManyCliques();
        Asked.end("objects hold for 512 calls");
    }

    private static void isUsedUp(Asked graph) {
        if (graph.calls() != MOST_CALLS) {
            System.out.println("the test made " + graph.calls() + " calls, not " + MOST_CALLS);
            System.exit(1);
        }
    }

    /** All 91 pairs one behind the other, round and round: linked, not linked, and so on. */
    private static void allCallsLink() {
        Asked graph = Graphs.none();
        for (int round = 0; graph.calls() < MOST_CALLS; round++) {
            for (int u = 0; u < 14; u++) {
                for (int v = 0; v < u && graph.calls() < MOST_CALLS; v++) {
                    graph.link(u, v, 1 - round % 2);
                }
            }
        }
        isUsedUp(graph);
    }

    private static void allCallsClear() {
        Asked graph = Graphs.all().clear(91);
        while (graph.calls() < MOST_CALLS) {
            graph.clear(0);
        }
        isUsedUp(graph);
    }

    /** What is refused counts as a call too, and changes nothing up to the last one. */
    private static void allCallsAreRefused() {
        Asked graph = Graphs.ring(0, 4);
        while (graph.calls() < MOST_CALLS - 1) {
            refuse(graph, graph.calls() % 13);
        }
        graph.clear(4);
        isUsedUp(graph);
    }

    private static void refuse(Asked graph, int kind) {
        switch (kind) {
            case 0 -> graph.link(Integer.MAX_VALUE, Integer.MIN_VALUE, NONE);
            case 1 -> graph.link(13, 14, NONE);
            case 2 -> graph.link(7, 7, NONE);
            case 3 -> graph.hole(4, NONE);
            case 4 -> graph.triple(0, NONE);
            case 5 -> graph.path(0, 0, NONE);
            case 6 -> graph.clique(14, NONE);
            case 7 -> graph.at(0, NONE);
            case 8 -> graph.span(0, true, NONE);
            case 9 -> graph.begins(14, NONE);
            case 10 -> graph.follows(0, 14, NONE);
            case 11 -> graph.between(0, 1, 14, NONE);
            default -> graph.hole(Integer.MIN_VALUE, NONE);
        }
    }

    private static void allCallsAskTheSame(int question) {
        Asked graph = Graphs.path(0, 14);
        while (graph.calls() < MOST_CALLS) {
            call(question, graph, false);
        }
        isUsedUp(graph);
    }

    /** Nearly all calls change links, and the last change is seen though the one before it was asked about. */
    private static void lastCallBehindLinks(int method, boolean ring) {
        Asked graph = Graphs.path(0, 14);
        if (!ring) {
            // One change less, so that the last one ends with the path and not with the ring.
            graph.link(0, 0, NONE);
        }
        boolean linked = false;
        while (graph.calls() < MOST_CALLS - 3) {
            linked = !linked;
            graph.link(13, 0, linked ? 1 : 0);
        }
        call(Math.max(method, FIRST_QUESTION), graph, linked);
        graph.link(0, 13, linked ? 0 : 1);
        call(method, graph, ring);
        isUsedUp(graph);
    }

    /** All questions in turn, so that all has been worked out before the last call. */
    private static void lastCallBehindQuestions(int method) {
        Asked graph = Graphs.ring(0, 14);
        for (int i = 0; graph.calls() < MOST_CALLS - 1; i++) {
            call(FIRST_QUESTION + i % (METHODS - FIRST_QUESTION), graph, true);
        }
        call(method, graph, true);
        isUsedUp(graph);
    }

    /** Each change makes the object work anew, as often as an object can be made to. */
    private static void everySecondCallChanges(int question) {
        Asked graph = Graphs.path(0, 14);
        boolean ring = false;
        while (graph.calls() < MOST_CALLS - 1) {
            ring = !ring;
            graph.link(0, 13, ring ? 1 : 0);
            call(question, graph, ring);
        }
        graph.clear(ring ? 14 : 13);
        isUsedUp(graph);
    }

    /** An object that has known many cliques and orders within orders is as good as new for few of them. */
    private static void nothingStaysOfManyCliques() {
        linkAllBehindPaths().cliques(1).lines(1).at(0, 0).at(1, NONE).begins(0, 1).begins(1, NONE);
        linkAllBehindPaths().link(0, 1, 0).cliques(2).lines(2).at(1, 1).at(2, NONE).begins(1, 1)
                .follows(1, 0, 1).follows(1, 2, NONE);
        linkAllBehindPaths().link(0, 1, 0).link(1, 2, 0).link(0, 2, 0).cliques(3).lines(6).at(2, 2)
                .at(3, NONE).begins(2, 2).follows(2, 0, 2).between(0, 1, 2, 2);
    }

    /** Four paths of three vertices, two vertices alone, and then all links there are. */
    private static Asked linkAllBehindPaths() {
        Asked graph = new Asked("all links behind paths");
        for (int v = 0; v < 12; v += 3) {
            graph.linkAll(v, v + 1, v + 1, v + 2);
        }
        graph.cliques(10).lines(720 * 16).at(9, 9).begins(0, 120 * 8).follows(0, 1, 720 * 8).clear(8);
        for (int u = 0; u < 14; u++) {
            for (int v = 0; v < u; v++) {
                graph.link(u, v, 1);
            }
        }
        return graph;
    }

    /** Calls a method of the path 0, 1, .. 13, or of the ring that it is when 13 and 0 are linked too. */
    private static void call(int method, Asked graph, boolean ring) {
        switch (method) {
            case 0 -> graph.link(13, 0, ring ? 0 : 1);
            case 1 -> graph.clear(ring ? 14 : 13);
            case 2 -> graph.hole(13, ring ? 13 : NONE);
            case 3 -> graph.triple(2, ring ? 4 : NONE);
            case 4 -> graph.path(1, 10, ring ? 4 : NONE);
            case 5 -> graph.cliques(ring ? 14 : 13);
            case 6 -> graph.clique(13, ring ? 12288 : NONE);
            case 7 -> graph.lines(ring ? 0 : 2);
            case 8 -> graph.at(12, ring ? NONE : 12);
            case 9 -> graph.span(12, true, ring ? NONE : 12);
            case 10 -> graph.begins(12, ring ? 0 : 1);
            case 11 -> graph.follows(12, 11, ring ? 0 : 1);
            case 12 -> graph.between(12, 6, 0, ring ? 0 : 2);
            default -> graph.isProper(!ring);
        }
    }
}
