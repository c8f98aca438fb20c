/**
 * Promises 1 to 8: a test for each sentence of the document that names a boundary, just below it, at it and
 * just above it, with negative numbers, the least and the greatest int, without links and with all of them.
 */
public final class BoundaryTest {
    private static final int NONE = Asked.NONE;
    private static final int VERTICES = Graphs.VERTICES;
    private static final int ALL = Graphs.ALL;

    public static void main(String[] args) {
        newObjectHasNoLinks();
        objectsShareNoLinks();
        linkedIfTheyWereNotAndNotIfTheyWere();
        linkIsNoneWhenNotTwoVertices();
        refusedLinkChangesNothing();
        clearTellsHowManyLinksThereWere();
        clearLeavesNothingLinked();
        clearCountsOnlyLinksThatThereAre();
        holeIsNoneWhenThereIsNone();
        holeIsNoneFromItsLengthOn();
        holeHasFourVerticesOrMore();
        tripleIsNoneWhenThereIsNone();
        tripleIsNoneForOthers();
        pathIsNoneWhenThereIsNoTriple();
        pathIsNoneWhenThereIsNoSuchVertex();
        fourteenCliquesWithoutLinks();
        eachVertexWithoutLinksIsAClique();
        fewestAndMostCliques();
        cliqueIsNoneWhenThereIsNoneSuch();
        Asked.end("the boundaries of promises 1 to 8 hold");
    }

    /** All that can be asked of a graph without links. */
    private static void asWithoutLinks(Asked graph) {
        graph.cliques(14).lines(87178291200L).isProper(true);
        for (int v = 0; v < VERTICES; v++) {
            graph.clique(v, 1 << v).at(v, v).span(v, false, v).span(v, true, v);
            graph.begins(v, 6227020800L).follows(v, (v + 1) % 14, 6227020800L);
            graph.between(v, (v + 1) % 14, (v + 2) % 14, 29059430400L);
            graph.hole(v, NONE).path(0, v, NONE).path(1, v, NONE).path(2, v, NONE);
        }
        for (int which = 0; which < 3; which++) {
            graph.triple(which, NONE);
        }
        graph.clique(14, NONE).at(14, NONE).begins(14, NONE);
    }

    /** Links two by two, in the order (1, 0), (2, 0), (2, 1), .. */
    private static void linkFirst(Asked graph, int many) {
        int done = 0;
        for (int u = 0; u < VERTICES; u++) {
            for (int v = 0; v < u && done < many; v++) {
                graph.link(u, v, 1);
                done++;
            }
        }
    }

    /** 1: "No links." */
    private static void newObjectHasNoLinks() {
        asWithoutLinks(Graphs.none());
        Graphs.none().clear(0);
        Asked graph = Graphs.none();
        linkFirst(graph, 91);
        graph.clear(91);
    }

    /** 1: "No links.", whatever another object has. */
    private static void objectsShareNoLinks() {
        Asked all = Graphs.all().cliques(1);
        Asked other = Graphs.none();
        asWithoutLinks(other);
        other.link(0, 1, 1).cliques(13);
        all.cliques(1).clear(91);
        other.cliques(13).clear(1);
    }

    /** 2: "Two vertices are linked if they were not, and not if they were: 1 or 0 as they are then." */
    private static void linkedIfTheyWereNotAndNotIfTheyWere() {
        for (int u = 0; u < VERTICES; u++) {
            Asked graph = Graphs.none();
            for (int v = 0; v < VERTICES; v++) {
                if (v != u) {
                    graph.link(u, v, 1).cliques(13).clique(Math.max(u, v) - 1, (1 << u) | (1 << v));
                    graph.link(u, v, 0).cliques(14).clique(u, 1 << u).clique(v, 1 << v);
                    graph.link(v, u, 1).cliques(13);
                    graph.link(u, v, 0).cliques(14);
                    graph.link(u, v, 1).link(v, u, 0);
                }
            }
            graph.clear(0);
        }
        Asked all = Graphs.all();
        all.link(0, 13, 0).cliques(2).link(13, 0, 1).cliques(1);
        all.link(13, 12, 0).cliques(2).link(13, 12, 1).cliques(1).clear(91);
    }

    /** 2: "NONE when they are not two vertices." */
    private static void linkIsNoneWhenNotTwoVertices() {
        Asked near = Graphs.none();
        near.link(-1, 0, NONE).link(0, -1, NONE).link(-1, -1, NONE).link(0, 0, NONE);
        near.link(0, 1, 1).link(1, 0, 0).link(12, 13, 1).link(13, 12, 0).link(0, 13, 1).link(13, 0, 0);
        near.link(13, 13, NONE).link(13, 14, NONE).link(14, 13, NONE).link(14, 14, NONE);
        near.link(14, 0, NONE).link(0, 14, NONE).link(-1, 13, NONE).link(13, -1, NONE);
        near.link(-1, 14, NONE).link(14, -1, NONE).link(14, 15, NONE).link(-2, -1, NONE);
        near.clear(0);
        for (Asked graph : new Asked[] {Graphs.none(), Graphs.all(), Graphs.ring(0, 4)}) {
            refuseLinks(graph);
        }
    }

    private static void refuseLinks(Asked graph) {
        for (int odd : Graphs.outside(VERTICES)) {
            graph.link(odd, 0, NONE).link(0, odd, NONE).link(13, odd, NONE).link(odd, 13, NONE);
            graph.link(odd, odd, NONE);
        }
        for (int v = 0; v < VERTICES; v++) {
            graph.link(v, v, NONE);
        }
    }

    /** 2: what is refused leaves the graph as it was, whether it has been asked before or not. */
    private static void refusedLinkChangesNothing() {
        for (int round = 0; round < 2; round++) {
            Asked none = Graphs.none();
            Asked all = Graphs.all();
            Asked ring = Graphs.ring(0, 4);
            if (round == 1) {
                none.lines(87178291200L);
                all.lines(1);
                ring.hole(3, 3);
            }
            refuseLinks(none);
            refuseLinks(all);
            refuseLinks(ring);
            asWithoutLinks(none);
            all.lines(1).cliques(1).clique(0, ALL).at(0, 0).hole(0, NONE).clear(91);
            ring.hole(0, 0).hole(3, 3).hole(4, NONE).cliques(14).lines(0).clear(4);
        }
    }

    /** 3: "how many links there were." */
    private static void clearTellsHowManyLinksThereWere() {
        for (int many = 0; many <= 91; many++) {
            Asked graph = Graphs.none();
            linkFirst(graph, many);
            graph.clear(many).clear(0);
        }
        for (int u = 0; u < VERTICES; u++) {
            for (int v = 0; v < u; v++) {
                Graphs.none().link(u, v, 1).clear(1);
                Graphs.allButOne(v, u).clear(90);
            }
        }
    }

    /** 3: "Nothing is linked any more". */
    private static void clearLeavesNothingLinked() {
        asWithoutLinks(Graphs.none().clear(0));
        asWithoutLinks(Graphs.path(12, 2).cliques(13).clear(1));
        asWithoutLinks(Graphs.allButOne(0, 13).lines(2).clear(90));
        asWithoutLinks(Graphs.all().lines(1).clear(91));
        asWithoutLinks(Graphs.ring(0, 14).hole(13, 13).lines(0).clear(14));
        asWithoutLinks(Graphs.net().triple(0, 1).path(0, 1, 11).lines(0).clear(6));
        asWithoutLinks(Graphs.star(13).isProper(false).clear(13));
        Asked again = Graphs.all().clear(91);
        linkFirst(again, 91);
        again.clear(91).link(3, 4, 1).link(3, 4, 0).clear(0);
    }

    /** 3: a link that was taken away again, or refused, is none. */
    private static void clearCountsOnlyLinksThatThereAre() {
        Graphs.none().link(0, 1, 1).link(1, 0, 0).clear(0);
        Graphs.none().link(0, 1, 1).link(0, 1, 0).link(1, 0, 1).clear(1);
        Graphs.none().link(0, 0, NONE).link(14, 0, NONE).link(0, -1, NONE).clear(0);
        Graphs.all().link(5, 5, NONE).link(5, 14, NONE).link(5, 6, 0).clear(90);
        Graphs.none().link(0, 1, 1).clear(1).link(0, 1, 1).clear(1);
    }

    /** 4: "NONE when there is no hole". */
    private static void holeIsNoneWhenThereIsNone() {
        noHole(Graphs.none());
        noHole(Graphs.all());
        noHole(Graphs.allButOne(0, 13));
        noHole(Graphs.path(0, 14));
        noHole(Graphs.star(13));
        noHole(Graphs.legs());
        noHole(Graphs.ring(0, 4).link(0, 2, 1));
        noHole(Graphs.ring(0, 5).link(0, 2, 1).link(0, 3, 1));
        Asked fan = Graphs.ring(0, 14);
        for (int v = 2; v < 13; v++) {
            fan.link(0, v, 1);
        }
        noHole(fan);
        noHole(Graphs.ring(0, 14).hole(13, 13).link(13, 0, 0));
        noHole(Graphs.ring(10, 4).hole(3, 13).clear(4));
    }

    private static void noHole(Asked graph) {
        for (int i = 0; i < VERTICES; i++) {
            graph.hole(i, NONE);
        }
        for (int odd : Graphs.outside(VERTICES)) {
            graph.hole(odd, NONE);
        }
    }

    /** 4: "NONE when .. i is not below its length." */
    private static void holeIsNoneFromItsLengthOn() {
        for (int length = 4; length <= VERTICES; length++) {
            for (int first = 0; first <= VERTICES - length; first++) {
                Asked graph = Graphs.ring(first, length);
                for (int i = 0; i < length; i++) {
                    graph.hole(i, first + i);
                }
                for (int odd : Graphs.outside(length)) {
                    graph.hole(odd, NONE);
                }
            }
        }
        // A hole that grows shorter leaves nothing behind its new end.
        Asked graph = Graphs.ring(0, 14).hole(12, 12).hole(13, 13).hole(14, NONE);
        graph.link(0, 3, 1).hole(3, 3).hole(4, NONE).hole(13, NONE);
        graph.link(0, 3, 0).hole(4, 4).hole(13, 13).hole(14, NONE);
    }

    /** Terms: "A HOLE is a cycle of four vertices or more of which no two are linked but ..". */
    private static void holeHasFourVerticesOrMore() {
        for (int first = 0; first <= VERTICES - 3; first++) {
            Graphs.ring(first, 3).hole(0, NONE).hole(2, NONE).hole(3, NONE);
        }
        for (int first = 0; first <= VERTICES - 4; first++) {
            Graphs.ring(first, 4).hole(0, first).hole(3, first + 3).hole(4, NONE);
            Graphs.ring(first, 4).link(first, first + 2, 1).hole(0, NONE).hole(3, NONE);
            Graphs.ring(first, 4).link(first + 3, first + 1, 1).hole(0, NONE).hole(3, NONE);
        }
    }

    /** 5: "NONE when there is none". */
    private static void tripleIsNoneWhenThereIsNone() {
        for (Asked graph : withoutTriple()) {
            for (int which = 0; which < 3; which++) {
                graph.triple(which, NONE);
            }
            for (int odd : Graphs.outside(3)) {
                graph.triple(odd, NONE);
            }
        }
    }

    private static Asked[] withoutTriple() {
        return new Asked[] {
            Graphs.none(), Graphs.all(), Graphs.allButTriangle(), Graphs.path(0, 14), Graphs.star(13),
            // The greatest ring without one, and each that comes near one but for a link.
            Graphs.ring(0, 4), Graphs.ring(0, 5), Graphs.ring(9, 5), Graphs.groups(3), Graphs.groups(7),
            Graphs.legs().triple(0, 2).link(5, 6, 0),
            Graphs.legs().triple(0, 2).link(0, 5, 0),
            Graphs.net().triple(0, 1).link(1, 2, 1).link(2, 3, 1),
            Graphs.net().triple(0, 1).link(10, 3, 0),
            Graphs.net().triple(0, 1).clear(6)
        };
    }

    /** 5: "which = 0 the least, 1, 2 the greatest. NONE .. for others." */
    private static void tripleIsNoneForOthers() {
        tripleIs(Graphs.ring(0, 6), 0, 2, 4);
        tripleIs(Graphs.ring(8, 6), 8, 10, 12);
        tripleIs(Graphs.ring(0, 14), 0, 2, 4);
        tripleIs(Graphs.legs(), 2, 4, 6);
        tripleIs(Graphs.longLegs(), 0, 1, 2);
        tripleIs(Graphs.net(), 1, 2, 3);
        tripleIs(new Asked("a net of the last ones").linkAll(8, 9, 9, 10, 10, 8, 8, 13, 9, 12, 10, 11),
                11, 12, 13);
    }

    private static void tripleIs(Asked graph, int least, int middle, int greatest) {
        graph.triple(-1, NONE).triple(0, least).triple(1, middle).triple(2, greatest).triple(3, NONE);
        for (int odd : Graphs.outside(3)) {
            graph.triple(odd, NONE);
        }
    }

    /** 6: "NONE when there is no triple". */
    private static void pathIsNoneWhenThereIsNoTriple() {
        for (Asked graph : withoutTriple()) {
            for (int which = -1; which < 4; which++) {
                for (int i = -1; i <= VERTICES; i++) {
                    graph.path(which, i, NONE);
                }
            }
            for (int odd : Graphs.outside(3)) {
                graph.path(odd, 0, NONE).path(0, odd, NONE).path(odd, odd, NONE);
            }
        }
    }

    /** 6: "NONE when there is .. no such vertex": i is not below the path's length, or which is no corner. */
    private static void pathIsNoneWhenThereIsNoSuchVertex() {
        pathIs(Graphs.ring(0, 6), 0, 2, 3, 4);
        pathIs(Graphs.ring(0, 6), 1, 0, 5, 4);
        pathIs(Graphs.ring(0, 6), 2, 0, 1, 2);
        pathIs(Graphs.ring(0, 14), 1, 0, 13, 12, 11, 10, 9, 8, 7, 6, 5, 4);
        pathIs(Graphs.net(), 0, 2, 11, 10, 3);
        pathIs(Graphs.net(), 1, 1, 12, 10, 3);
        pathIs(Graphs.net(), 2, 1, 12, 11, 2);
        pathIs(Graphs.longLegs(), 0, 1, 3, 13, 4, 2);
        pathIs(Graphs.longLegs(), 1, 0, 12, 11, 10, 9, 8, 7, 6, 5, 13, 4, 2);
        pathIs(Graphs.longLegs(), 2, 0, 12, 11, 10, 9, 8, 7, 6, 5, 13, 3, 1);
        // Paths that grow shorter leave nothing behind their new ends.
        Asked shorter = Graphs.longLegs().path(1, 11, 2).link(5, 0, 1).path(1, 4, 2).path(1, 5, NONE);
        shorter.path(1, 11, NONE).link(0, 5, 0).path(1, 11, 2).path(1, 12, NONE);
    }

    private static void pathIs(Asked graph, int which, int... want) {
        for (int i = 0; i < want.length; i++) {
            graph.path(which, i, want[i]);
        }
        for (int odd : Graphs.outside(want.length)) {
            graph.path(which, odd, NONE);
        }
        for (int odd : Graphs.outside(3)) {
            graph.path(odd, 0, NONE).path(odd, want.length - 1, NONE).path(odd, odd, NONE);
        }
    }

    /** 7: "(14 without links)". */
    private static void fourteenCliquesWithoutLinks() {
        Graphs.none().cliques(14);
        Graphs.none().link(0, 13, 1).cliques(13).link(13, 0, 0).cliques(14);
        Graphs.all().cliques(1).clear(91).cliques(14);
        Graphs.groups(3).cliques(162).clear(78).cliques(14);
    }

    /** Terms: "(each vertex without links is one)". */
    private static void eachVertexWithoutLinksIsAClique() {
        for (int n = 1; n <= VERTICES; n++) {
            Asked graph = Graphs.clump(n).cliques(15 - n).clique(0, (1 << n) - 1);
            for (int v = n; v < VERTICES; v++) {
                graph.clique(v - n + 1, 1 << v);
            }
        }
        for (int lone = 0; lone < VERTICES; lone++) {
            Asked graph = Graphs.all();
            for (int v = 0; v < VERTICES; v++) {
                if (v != lone) {
                    graph.link(lone, v, 0);
                }
            }
            boolean last = lone == 13;
            graph.cliques(2).clique(last ? 1 : 0, 1 << lone).clique(last ? 0 : 1, ALL ^ (1 << lone));
        }
    }

    /** 7: with all links, with most cliques, and around the 14 that a line can have at most. */
    private static void fewestAndMostCliques() {
        Graphs.all().cliques(1);
        Graphs.allButOne(4, 9).cliques(2);
        Graphs.ring(0, 13).cliques(14);
        Graphs.ring(0, 14).cliques(14);
        Graphs.path(0, 14).cliques(13);
        Graphs.ring(0, 14).link(0, 7, 1).cliques(15);
        Graphs.groups(7).cliques(49);
        Graphs.groups(3).cliques(162);
        Graphs.groups(3).link(12, 13, 1).cliques(81).link(12, 13, 0).cliques(162);
    }

    /** 8: "NONE when there is none such." */
    private static void cliqueIsNoneWhenThereIsNoneSuch() {
        cliquesEnd(Graphs.all(), 1, ALL, ALL);
        cliquesEnd(Graphs.allButOne(0, 13), 2, ALL ^ (1 << 13), ALL ^ 1);
        cliquesEnd(Graphs.path(0, 14), 13, 3, 3 << 12);
        cliquesEnd(Graphs.none(), 14, 1, 1 << 13);
        cliquesEnd(Graphs.ring(0, 14), 14, 3, 3 << 12);
        cliquesEnd(Graphs.ring(0, 14).link(0, 7, 1), 15, 3, 3 << 12);
        cliquesEnd(Graphs.groups(7), 49, 1 + (1 << 7), (1 << 6) + (1 << 13));
        cliquesEnd(Graphs.groups(3), 162, 1 + 8 + 64 + 512 + 4096, 4 + 32 + 256 + 2048 + 8192);
        Graphs.groups(3).clique(161, 10532).clear(78).clique(13, 8192).clique(14, NONE).clique(161, NONE);
        Graphs.none().clique(13, 8192).link(12, 13, 1).clique(12, 12288).clique(13, NONE);
    }

    private static void cliquesEnd(Asked graph, int count, int first, int last) {
        graph.clique(-1, NONE).clique(0, first).clique(count - 1, last).clique(count, NONE);
        for (int odd : Graphs.outside(count)) {
            graph.clique(odd, NONE);
        }
        graph.cliques(count);
    }
}
