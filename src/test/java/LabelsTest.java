/** Promises 9 to 17, 23 and 24: the labels, and what the last building or extension counted. */
public final class LabelsTest {
    private static final int[] NO_VERTICES = {-1, 5, 48, Integer.MAX_VALUE, Integer.MIN_VALUE};

    public static void main(String[] args) {
        promise9Build();
        promise9BuildAnew();
        promise9NeighboursByRisingNumbers();
        promise10IsBuilt();
        promise11Rank();
        promise11RankOfTheGreatestDegree();
        promise12Entries();
        promise13EntriesIfBuilt();
        promise14LabelSize();
        promises15To17Entries();
        promises15To17Throw();
        promises23And24LastCall();
        Check.finish("LabelsTest");
    }

    private static void promise9Build() {
        Check.equal("build() of nothing", new LandmarkLea().build(), 0);
        Check.equal("build() of 48 apart", Graphs.empty(48).build(), 48);
        LandmarkLea lea = Graphs.path(3);
        Check.equal("build()", lea.build(), 7);
        Check.equal("label 0", Graphs.label(lea, 0), "1:1:1 0:0:-1");
        Check.equal("label 1", Graphs.label(lea, 1), "1:0:-1");
        Check.equal("label 2", Graphs.label(lea, 2), "1:1:1 2:0:-1");
        Check.equal("build() again", lea.build(), 7);
        // All three write their own entry; towards hubs of less rank the three searches are pruned.
        Check.equal("build() of a triangle", triangle().build(), 9);
    }

    private static LandmarkLea triangle() {
        LandmarkLea lea = Graphs.path(3);
        lea.addEdge(2, 0);
        return lea;
    }

    private static void promise9BuildAnew() {
        LandmarkLea lea = Graphs.joinedPairs();
        Check.equal("rank(1) before", lea.rank(1), 1);
        Check.equal("build() anew", lea.build(), 11);
        Check.equal("pruned anew", lea.pruned(), 3);
        Check.equal("written anew", lea.written(), 8);
        Check.equal("rank(1) anew", lea.rank(1), 0);
        Check.equal("label 0 anew", Graphs.label(lea, 0), "1:1:1 0:0:-1");
        Check.equal("label 3 anew", Graphs.label(lea, 3), "1:2:2 2:1:2 3:0:-1");
    }

    /** The vertex 3 is reached from 1 and from 2 alike: 1 is in the queue first, in whatever order edges came. */
    private static void promise9NeighboursByRisingNumbers() {
        LandmarkLea lea = Graphs.empty(4);
        lea.addEdge(3, 2);
        lea.addEdge(2, 0);
        lea.addEdge(3, 1);
        lea.addEdge(1, 0);
        lea.build();
        Check.equal("label 3 of the square", Graphs.label(lea, 3), "0:2:1 1:1:1 2:1:2 3:0:-1");
    }

    private static void promise10IsBuilt() {
        LandmarkLea lea = Graphs.path(3);
        lea.entriesIfBuilt();
        Check.equal("isBuilt before", lea.isBuilt(), false);
        lea.build();
        Check.equal("isBuilt", lea.isBuilt(), true);
        lea.addVertex();
        lea.addEdge(3, 0);
        Check.equal("isBuilt extended", lea.isBuilt(), true);
        lea.clear();
        Check.equal("isBuilt cleared", lea.isBuilt(), false);
    }

    private static void promise11Rank() {
        // The degrees are 1, 2, 3, 2, 2: the ties go by rising numbers.
        LandmarkLea lea = Graphs.path(5);
        lea.addEdge(2, 4);
        for (int v = 0; v < 5; v++) {
            int vertex = v;
            Check.throwsState("rank unbuilt", () -> lea.rank(vertex));
        }
        lea.build();
        int[] due = {4, 1, 0, 2, 3};
        for (int v = 0; v < 5; v++) {
            Check.equal("rank(" + v + ")", lea.rank(v), due[v]);
        }
        for (int v : NO_VERTICES) {
            Check.throwsNoVertex("rank(" + v + ")", () -> lea.rank(v));
        }
        // Ranks stay while edges are added, and a vertex added later comes last.
        lea.addVertex();
        lea.addEdge(5, 0);
        lea.addEdge(0, 3);
        lea.addEdge(0, 4);
        Check.equal("rank(0) with edges", lea.rank(0), 4);
        Check.equal("rank(5)", lea.rank(5), 5);
        lea.build();
        Check.equal("rank(0) anew", lea.rank(0), 0);
        lea.clear();
        Check.throwsNoVertex("rank(6) unbuilt", () -> lea.rank(6));
    }

    private static void promise11RankOfTheGreatestDegree() {
        LandmarkLea star = Graphs.empty(48);
        for (int v = 0; v < 47; v++) {
            star.addEdge(v, 47);
        }
        Check.equal("build() of a star", star.build(), 142);
        Check.equal("rank of its centre", star.rank(47), 0);
        Check.equal("rank of its last ray", star.rank(46), 47);
        Check.equal("entries of a star", star.entries(), 95);
        Check.equal("pruned of a star", star.pruned(), 47);
    }

    private static void promise12Entries() {
        LandmarkLea lea = Graphs.path(3);
        Check.equal("entries unbuilt", lea.entries(), 0);
        lea.build();
        Check.equal("entries", lea.entries(), 5);
        lea.addVertex();
        Check.equal("entries with a later vertex", lea.entries(), 6);
        lea.addEdge(2, 3);
        Check.equal("entries extended", lea.entries(), 8);
        lea.clear();
        Check.equal("entries cleared", lea.entries(), 0);
    }

    private static void promise13EntriesIfBuilt() {
        Check.equal("entriesIfBuilt of nothing", new LandmarkLea().entriesIfBuilt(), 0);
        LandmarkLea lea = Graphs.path(3);
        Check.equal("entriesIfBuilt unbuilt", lea.entriesIfBuilt(), 5);
        Check.equal("isBuilt", lea.isBuilt(), false);
        Check.equal("entries", lea.entries(), 0);
        Check.equal("written", lea.written(), 0);
        Check.equal("pruned", lea.pruned(), 0);
        Check.throwsState("rank(0)", () -> lea.rank(0));
        LandmarkLea joined = Graphs.joinedPairs();
        Check.equal("entriesIfBuilt extended", joined.entriesIfBuilt(), 8);
        Check.equal("entries stay", joined.entries(), 10);
        Check.equal("written stays", joined.written(), 4);
        Check.equal("pruned stays", joined.pruned(), 3);
        Check.equal("rank(1) stays", joined.rank(1), 1);
        Check.equal("label 3 stays", Graphs.label(joined, 3), "0:3:2 1:2:2 2:1:2 3:0:-1");
        joined.clear();
        Check.equal("entriesIfBuilt cleared", joined.entriesIfBuilt(), 4);
    }

    private static void promise14LabelSize() {
        LandmarkLea lea = Graphs.joinedPairs();
        for (int v = 0; v < 4; v++) {
            Check.equal("labelSize(" + v + ")", lea.labelSize(v), v + 1);
        }
        Check.throwsNoVertex("labelSize(4)", () -> lea.labelSize(4));
        for (int v : NO_VERTICES) {
            Check.throwsNoVertex("labelSize(" + v + ")", () -> lea.labelSize(v));
        }
        lea.clear();
        Check.throwsState("labelSize(0) unbuilt", () -> lea.labelSize(0));
        Check.throwsNoVertex("labelSize(4) unbuilt", () -> lea.labelSize(4));
    }

    private static void promises15To17Entries() {
        LandmarkLea lea = Graphs.builtPath(3);
        Check.equal("entryHub(2, 0)", lea.entryHub(2, 0), 1);
        Check.equal("entryHub(2, 1)", lea.entryHub(2, 1), 2);
        Check.equal("entryDistance(2, 0)", lea.entryDistance(2, 0), 1);
        Check.equal("entryDistance(2, 1)", lea.entryDistance(2, 1), 0);
        Check.equal("entryParent(2, 0)", lea.entryParent(2, 0), 1);
        Check.equal("entryParent(2, 1)", lea.entryParent(2, 1), LandmarkLea.NONE);
        // The ranks of a label need not follow one another: here a later vertex meets two old hubs.
        lea.addVertices(2);
        lea.addEdge(4, 2);
        Check.equal("label 4", Graphs.label(lea, 4), "1:2:2 2:1:2 4:0:-1");
    }

    private static void promises15To17Throw() {
        LandmarkLea lea = Graphs.builtPath(5);
        for (int v : NO_VERTICES) {
            throwsNoVertex(lea, v, 0);
            throwsNoVertex(lea, v, -1);
        }
        int[] wrong = {-1, lea.labelSize(4), 48, 64, Integer.MAX_VALUE, Integer.MIN_VALUE};
        for (int entry : wrong) {
            Check.throwsArgument("entryHub, " + entry, () -> lea.entryHub(4, entry));
            Check.throwsArgument("entryDistance, " + entry, () -> lea.entryDistance(4, entry));
            Check.throwsArgument("entryParent, " + entry, () -> lea.entryParent(4, entry));
        }
        lea.clear();
        throwsNoVertex(lea, 5, -1);
        Check.throwsState("entryHub unbuilt", () -> lea.entryHub(4, -1));
        Check.throwsState("entryDistance unbuilt", () -> lea.entryDistance(4, -1));
        Check.throwsState("entryParent unbuilt", () -> lea.entryParent(4, -1));
    }

    private static void throwsNoVertex(LandmarkLea lea, int v, int entry) {
        Check.throwsNoVertex("entryHub of " + v, () -> lea.entryHub(v, entry));
        Check.throwsNoVertex("entryDistance of " + v, () -> lea.entryDistance(v, entry));
        Check.throwsNoVertex("entryParent of " + v, () -> lea.entryParent(v, entry));
    }

    private static void promises23And24LastCall() {
        LandmarkLea lea = Graphs.path(3);
        Check.equal("pruned unbuilt", lea.pruned(), 0);
        Check.equal("written unbuilt", lea.written(), 0);
        lea.build();
        Check.equal("pruned built", lea.pruned(), 2);
        Check.equal("written built", lea.written(), 5);
        // Both searches that an edge starts for a hub are pruned at once if it is no short cut.
        Check.equal("addEdge(0, 2)", lea.addEdge(0, 2), 6);
        Check.equal("pruned extended", lea.pruned(), 5);
        Check.equal("written extended", lea.written(), 1);
        lea.build();
        Check.equal("pruned anew", lea.pruned(), 3);
        Check.equal("written anew", lea.written(), 6);
        lea.clear();
        lea.addEdge(0, 1);
        Check.equal("pruned cleared", lea.pruned(), 0);
        Check.equal("written cleared", lea.written(), 0);
        LandmarkLea nothing = new LandmarkLea();
        nothing.build();
        Check.equal("written of nothing", nothing.written(), 0);
        Check.equal("pruned of nothing", nothing.pruned(), 0);
    }
}
