/**
 * Promises 9 to 15: a test for each sentence of the document that names a boundary, just below it, at it and
 * just above it, with negative numbers, the least and the greatest int, without links and with all of them.
 */
public final class LineBoundaryTest {
    private static final int NONE = Asked.NONE;
    private static final int VERTICES = Graphs.VERTICES;
    private static final long ALL_ORDERS = 87178291200L;
    /** How many cliques the graphs of withoutLine have, in their order. */
    private static final int[] CLIQUES_WITHOUT_LINE = {14, 14, 14, 15, 13, 13, 12, 49, 162};

    public static void main(String[] args) {
        lineAndReverseAreTwoButForOneClique();
        noLinesWithout();
        linesOfLoneCliques();
        atIsNoneWhenThereIsNoLine();
        atIsNoneWhenThereIsNoSuchPlace();
        spanIsNoneWhenThereIsNoLine();
        spanIsNoneWhenThereIsNoSuchVertex();
        beginsIsZeroWithoutALine();
        beginsIsNoneWhenThereIsNoSuchClique();
        followsIsNoneWhenThereAreNoSuchTwo();
        followsIsZeroWithoutALine();
        betweenInEitherOrder();
        betweenIsNoneWhenThereAreNoSuchThree();
        betweenIsZeroWithoutALine();
        isProperNeedsALineAndNoClaw();
        clawHasThreeOthersThatKeepApart();
        Asked.end("the boundaries of promises 9 to 15 hold");
    }

    /** With a hole, or with a triple but no hole; with 14 cliques and fewer, and with more than a line has. */
    private static Asked[] withoutLine() {
        return new Asked[] {
            Graphs.ring(0, 4), Graphs.ring(9, 5), Graphs.ring(0, 14), Graphs.ring(0, 14).link(0, 7, 1),
            Graphs.legs(), Graphs.longLegs(), Graphs.net(), Graphs.groups(7), Graphs.groups(3)
        };
    }

    /** 9: "(a line and its reverse are two, if it has more than one clique ..)". */
    private static void lineAndReverseAreTwoButForOneClique() {
        Graphs.all().cliques(1).lines(1);
        Graphs.allButOne(0, 13).cliques(2).lines(2);
        Graphs.allButOne(6, 7).cliques(2).lines(2);
        Graphs.allButPath().cliques(3).lines(2);
        Graphs.allButTriangle().cliques(3).lines(6);
        Graphs.path(0, 14).cliques(13).lines(2);
        Graphs.all().link(0, 1, 0).lines(2).link(0, 1, 1).lines(1);
    }

    /** 9: "(.. 0 without)". */
    private static void noLinesWithout() {
        for (Asked graph : withoutLine()) {
            graph.lines(0);
        }
        for (int length = 3; length <= VERTICES; length++) {
            long without = Graphs.factorial(VERTICES - length + 1);
            Graphs.ring(0, length).lines(length == 3 ? without : 0);
        }
        Graphs.net().lines(0).link(10, 3, 0).lines(Graphs.factorial(10) * 2).link(10, 3, 1).lines(0);
    }

    /** 9: without links, with one, .. with all among so many. */
    private static void linesOfLoneCliques() {
        Graphs.none().lines(ALL_ORDERS);
        for (int n = 1; n <= VERTICES; n++) {
            Graphs.clump(n).lines(Graphs.factorial(15 - n));
        }
        Graphs.star(13).lines(Graphs.factorial(13));
        Graphs.all().lines(1).clear(91).lines(ALL_ORDERS);
    }

    /** 10: "NONE when there is no line". */
    private static void atIsNoneWhenThereIsNoLine() {
        for (Asked graph : withoutLine()) {
            for (int place = 0; place < VERTICES; place++) {
                graph.at(place, NONE);
            }
            for (int odd : Graphs.outside(VERTICES)) {
                graph.at(odd, NONE);
            }
        }
        Graphs.path(0, 4).at(0, 0).link(3, 0, 1).at(0, NONE).link(3, 0, 0).at(0, 0);
    }

    /** 10: "NONE when there is .. no such place." */
    private static void atIsNoneWhenThereIsNoSuchPlace() {
        lineIs(Graphs.all(), 0);
        lineIs(Graphs.allButOne(0, 13), 0, 1);
        lineIs(Graphs.allButTriangle(), 0, 1, 2);
        lineIs(Graphs.path(0, 14), 0, 1, 2, 3, 4, 5, 6, 7, 8, 9, 10, 11, 12);
        lineIs(Graphs.none(), 0, 1, 2, 3, 4, 5, 6, 7, 8, 9, 10, 11, 12, 13);
        Graphs.none().at(13, 13).link(0, 1, 1).at(12, 12).at(13, NONE).link(0, 1, 0).at(13, 13);
    }

    private static void lineIs(Asked graph, int... want) {
        for (int place = 0; place < want.length; place++) {
            graph.at(place, want[place]);
        }
        for (int odd : Graphs.outside(want.length)) {
            graph.at(odd, NONE);
        }
    }

    /** 11: "NONE when there is no line". */
    private static void spanIsNoneWhenThereIsNoLine() {
        for (Asked graph : withoutLine()) {
            for (int v = -1; v <= VERTICES; v++) {
                graph.span(v, false, NONE).span(v, true, NONE);
            }
            for (int odd : Graphs.outside(VERTICES)) {
                graph.span(odd, false, NONE).span(odd, true, NONE);
            }
        }
        Graphs.path(0, 4).span(1, true, 1).link(3, 0, 1).span(1, true, NONE).link(3, 0, 0).span(1, true, 1);
    }

    /** 11: "NONE when there is .. no such vertex." */
    private static void spanIsNoneWhenThereIsNoSuchVertex() {
        spanEnds(Graphs.none(), 0, 0, 13, 13);
        spanEnds(Graphs.all(), 0, 0, 0, 0);
        spanEnds(Graphs.allButOne(0, 13), 0, 0, 1, 1);
        spanEnds(Graphs.allButOne(1, 12), 0, 1, 0, 1);
        spanEnds(Graphs.path(0, 14), 0, 0, 12, 12);
        spanEnds(Graphs.star(13), 0, 0, 0, 12);
    }

    private static void spanEnds(Asked graph, int from0, int to0, int from13, int to13) {
        graph.span(0, false, from0).span(0, true, to0).span(13, false, from13).span(13, true, to13);
        graph.span(-1, false, NONE).span(-1, true, NONE).span(14, false, NONE).span(14, true, NONE);
        for (int odd : Graphs.outside(VERTICES)) {
            graph.span(odd, false, NONE).span(odd, true, NONE);
        }
    }

    /** 12: "(0 if there is no line)". */
    private static void beginsIsZeroWithoutALine() {
        Asked[] graphs = withoutLine();
        for (int g = 0; g < graphs.length; g++) {
            int count = CLIQUES_WITHOUT_LINE[g];
            graphs[g].cliques(count);
            for (int k = 0; k < count; k++) {
                graphs[g].begins(k, 0);
            }
            for (int odd : Graphs.outside(count)) {
                graphs[g].begins(odd, NONE);
            }
        }
        Graphs.path(0, 4).begins(1, 0).begins(0, 39916800L / 11).link(3, 0, 1).begins(0, 0).begins(13, 0);
    }

    /** 12: "NONE when there is no such clique." */
    private static void beginsIsNoneWhenThereIsNoSuchClique() {
        beginsEnd(Graphs.all(), 1, 1, 1);
        beginsEnd(Graphs.allButOne(3, 4), 2, 1, 1);
        beginsEnd(Graphs.allButTriangle(), 3, 2, 2);
        // The cliques of 0, 1 and of 2, 3 are the ends; by their numbers they are the first and the last one.
        beginsEnd(Graphs.allButPath(), 3, 1, 1);
        beginsEnd(Graphs.path(0, 14), 13, 1, 1);
        beginsEnd(Graphs.star(13), 13, Graphs.factorial(12), Graphs.factorial(12));
        beginsEnd(Graphs.none(), 14, ALL_ORDERS / 14, ALL_ORDERS / 14);
        Graphs.none().begins(13, ALL_ORDERS / 14).link(3, 4, 1).begins(12, 479001600L).begins(13, NONE);
    }

    private static void beginsEnd(Asked graph, int count, long first, long last) {
        graph.begins(-1, NONE).begins(0, first).begins(count - 1, last).begins(count, NONE);
        for (int odd : Graphs.outside(count)) {
            graph.begins(odd, NONE);
        }
    }

    /** 13: "NONE when there are no such two different cliques." */
    private static void followsIsNoneWhenThereAreNoSuchTwo() {
        followsEnd(Graphs.all(), 1, NONE);
        followsEnd(Graphs.allButOne(3, 4), 2, 1);
        followsEnd(Graphs.allButPath(), 3, 0);
        followsEnd(Graphs.allButTriangle(), 3, 2);
        followsEnd(Graphs.path(0, 14), 13, 0);
        followsEnd(Graphs.none(), 14, ALL_ORDERS / 14);
        Asked graph = Graphs.none();
        for (int k = 0; k < VERTICES; k++) {
            graph.follows(k, k, NONE);
        }
        graph.link(0, 1, 1).follows(12, 13, NONE).follows(13, 12, NONE).follows(13, 13, NONE);
        graph.follows(11, 12, 479001600L).follows(12, 11, 479001600L);
    }

    /** The ends of 0 .. count - 1 and those just outside, in all pairs, and numbers further out. */
    private static void followsEnd(Asked graph, int count, long between0AndLast) {
        int[] near = {-1, 0, count - 1, count};
        for (int k : near) {
            for (int l : near) {
                boolean two = isOf(count, k) && isOf(count, l) && k != l;
                graph.follows(k, l, two ? between0AndLast : NONE);
            }
        }
        for (int odd : Graphs.outside(count)) {
            graph.follows(odd, 0, NONE).follows(0, odd, NONE).follows(odd, odd, NONE);
            graph.follows(odd, count - 1, NONE).follows(count - 1, odd, NONE);
        }
    }

    private static boolean isOf(int count, int k) {
        return k >= 0 && k < count;
    }

    /** 13: where there is no line, two different cliques that there are stand so in none. */
    private static void followsIsZeroWithoutALine() {
        Asked[] graphs = withoutLine();
        for (int g = 0; g < graphs.length; g++) {
            followsEnd(graphs[g].cliques(CLIQUES_WITHOUT_LINE[g]), CLIQUES_WITHOUT_LINE[g], 0);
        }
    }

    /** 14: "(in either order)". */
    private static void betweenInEitherOrder() {
        // Clique 1, that of 1 and 2, is the middle one.
        Graphs.allButPath().between(0, 1, 2, 2).between(2, 1, 0, 2).between(1, 0, 2, 0).between(2, 0, 1, 0)
                .between(0, 2, 1, 0).between(1, 2, 0, 0);
        for (int l = 0; l < 3; l++) {
            int k = (l + 1) % 3;
            int j = (l + 2) % 3;
            Graphs.allButTriangle().between(k, l, j, 2).between(j, l, k, 2);
        }
        Graphs.path(0, 14).between(0, 1, 12, 2).between(12, 1, 0, 2).between(0, 11, 12, 2)
                .between(12, 11, 0, 2).between(0, 12, 11, 0).between(11, 12, 0, 0);
        Graphs.none().between(0, 1, 2, ALL_ORDERS / 3).between(2, 1, 0, ALL_ORDERS / 3)
                .between(13, 0, 12, ALL_ORDERS / 3).between(12, 0, 13, ALL_ORDERS / 3);
        // Cliques 0 and 2 are the two ends of one piece: in half of all lines 2 is the one towards 3.
        Graphs.path(0, 4).between(0, 2, 3, 39916800L).between(3, 2, 0, 39916800L);
    }

    /** 14: "NONE when there are no such three different cliques." */
    private static void betweenIsNoneWhenThereAreNoSuchThree() {
        betweenEnd(Graphs.all(), 1, 0, NONE);
        betweenEnd(Graphs.allButOne(3, 4), 2, 1, NONE);
        betweenEnd(Graphs.allButTriangle(), 3, 1, 2);
        betweenEnd(Graphs.none(), 14, 6, ALL_ORDERS / 3);
        betweenEnd(Graphs.star(13), 13, 6, Graphs.factorial(13) / 3);
        Graphs.none().link(0, 1, 1).between(11, 12, 13, NONE).between(13, 12, 11, NONE)
                .between(11, 13, 12, NONE).between(10, 11, 12, 2075673600L);
    }

    /** As all orders of the three are as many, each of them is between the two others in a third of all. */
    private static void betweenEnd(Asked graph, int count, int middle, long third) {
        int[] near = {-1, 0, middle, count - 1, count};
        for (int k : near) {
            for (int l : near) {
                for (int j : near) {
                    boolean three = isOf(count, k) && isOf(count, l) && isOf(count, j);
                    boolean different = k != l && l != j && k != j;
                    graph.between(k, l, j, three && different ? third : NONE);
                }
            }
        }
        for (int odd : Graphs.outside(count)) {
            graph.between(odd, 0, 1, NONE).between(0, odd, 1, NONE).between(0, 1, odd, NONE);
            graph.between(odd, odd, odd, NONE).between(count - 1, odd, 0, NONE);
        }
    }

    /** 14: where there is no line, three different cliques that there are stand so in none. */
    private static void betweenIsZeroWithoutALine() {
        Asked[] graphs = withoutLine();
        for (int g = 0; g < graphs.length; g++) {
            betweenEnd(graphs[g], CLIQUES_WITHOUT_LINE[g], CLIQUES_WITHOUT_LINE[g] / 2, 0);
        }
    }

    /** 15: "there is a line, and no claw." */
    private static void isProperNeedsALineAndNoClaw() {
        // A line and no claw.
        Graphs.none().isProper(true);
        Graphs.all().isProper(true);
        Graphs.allButOne(0, 13).isProper(true);
        Graphs.path(0, 14).isProper(true);
        // A line and a claw.
        Graphs.star(3).lines(Graphs.factorial(11) * 6).isProper(false);
        Graphs.star(13).lines(Graphs.factorial(13)).isProper(false);
        Graphs.allButTriangle().lines(6).isProper(false);
        // No line and no claw: a hole, and a triple without a hole.
        Graphs.ring(0, 4).lines(0).isProper(false);
        Graphs.ring(0, 14).lines(0).isProper(false);
        Graphs.net().lines(0).isProper(false);
        // Neither.
        Graphs.legs().lines(0).isProper(false);
        Graphs.groups(3).lines(0).isProper(false);
    }

    /** Terms: "A CLAW is a vertex that is linked to three others no two of which are linked." */
    private static void clawHasThreeOthersThatKeepApart() {
        Graphs.star(0).isProper(true);
        Graphs.star(1).isProper(true);
        Graphs.star(2).isProper(true);
        Graphs.star(3).isProper(false);
        Graphs.star(4).isProper(false);
        for (int u = 0; u < 3; u++) {
            int v = (u + 1) % 3;
            Graphs.star(3).link(u, v, 1).isProper(true).link(u, v, 0).isProper(false);
        }
        for (int middle = 0; middle < VERTICES; middle++) {
            clawsAround(middle);
        }
    }

    private static void clawsAround(int middle) {
        Asked graph = Graphs.none();
        for (int step = 1; step <= 11; step++) {
            int a = (middle + step) % VERTICES;
            int b = (middle + step + 1) % VERTICES;
            int c = (middle + step + 2) % VERTICES;
            graph.link(middle, a, 1).link(middle, b, 1).isProper(true);
            graph.link(c, middle, 1).isProper(false).clear(3);
        }
    }
}
