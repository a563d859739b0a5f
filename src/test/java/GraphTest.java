/** Promises 1 to 8: a new object, and the graph. */
public final class GraphTest {
    public static void main(String[] args) {
        promise1NewObject();
        promise2AddVertex();
        promise3AddVertices();
        promise4AddEdgeUnbuilt();
        promise4AddEdgeBuilt();
        promise4AddEdgeThrows();
        promise5Clear();
        promises6And7Counts();
        promise8Neighbours();
        Check.finish("GraphTest");
    }

    private static void promise1NewObject() {
        LandmarkLea lea = new LandmarkLea();
        Check.equal("NONE", LandmarkLea.NONE, -1);
        Check.equal("new vertices", lea.vertices(), 0);
        Check.equal("new edges", lea.edges(), 0);
        Check.equal("new isBuilt", lea.isBuilt(), false);
        Check.equal("new entries", lea.entries(), 0);
        Check.equal("new pruned", lea.pruned(), 0);
        Check.equal("new written", lea.written(), 0);
        Check.throwsNoVertex("new neighbours(0)", () -> lea.neighbours(0));
    }

    private static void promise2AddVertex() {
        LandmarkLea lea = new LandmarkLea();
        for (int v = 0; v < 48; v++) {
            Check.equal("addVertex", lea.addVertex(), v);
        }
        Check.throwsState("49th addVertex", lea::addVertex);
        Check.equal("vertices after the refused one", lea.vertices(), 48);
        addVertexBehindTheBuilding();
    }

    private static void addVertexBehindTheBuilding() {
        LandmarkLea lea = Graphs.builtPath(3);
        Check.equal("addVertex built", lea.addVertex(), 3);
        Check.equal("addVertex again", lea.addVertex(), 4);
        Check.equal("its rank", lea.rank(4), 4);
        Check.equal("its label", Graphs.label(lea, 3), "3:0:-1");
        Check.equal("its neighbours", lea.neighbours(3), 0L);
        Check.equal("written stays", lea.written(), 5);
        Check.equal("pruned stays", lea.pruned(), 2);
        Check.equal("entries", lea.entries(), 7);
        Check.equal("isBuilt stays", lea.isBuilt(), true);
    }

    private static void promise3AddVertices() {
        LandmarkLea lea = new LandmarkLea();
        int[] wrong = {0, -1, 49, Integer.MAX_VALUE, Integer.MIN_VALUE};
        for (int count : wrong) {
            Check.throwsArgument("addVertices(" + count + ")", () -> lea.addVertices(count));
        }
        Check.equal("vertices after the refused ones", lea.vertices(), 0);
        Check.equal("addVertices(1)", lea.addVertices(1), 1);
        Check.throwsState("addVertices(48) on 1", () -> lea.addVertices(48));
        Check.equal("vertices after that", lea.vertices(), 1);
        Check.equal("addVertices(47)", lea.addVertices(47), 48);
        Check.throwsState("addVertices(1) on 48", () -> lea.addVertices(1));
        Check.throwsArgument("addVertices(49) on 48", () -> lea.addVertices(49));
        Check.throwsArgument("addVertices(0) on 48", () -> lea.addVertices(0));
        Check.equal("addVertices(48)", new LandmarkLea().addVertices(48), 48);
        addVerticesBehindTheBuilding();
    }

    private static void addVerticesBehindTheBuilding() {
        LandmarkLea lea = Graphs.builtPath(3);
        Check.equal("addVertices(3) built", lea.addVertices(3), 6);
        for (int v = 3; v < 6; v++) {
            Check.equal("rank of a later vertex", lea.rank(v), v);
            Check.equal("label of a later vertex", Graphs.label(lea, v), v + ":0:-1");
        }
        Check.throwsState("addVertices(43) on 6", () -> lea.addVertices(43));
        Check.equal("entries", lea.entries(), 8);
        Check.equal("written stays", lea.written(), 5);
    }

    private static void promise4AddEdgeUnbuilt() {
        LandmarkLea lea = Graphs.empty(48);
        Check.equal("addEdge unbuilt", lea.addEdge(0, 47), 0);
        Check.equal("neighbours(0)", lea.neighbours(0), 1L << 47);
        Check.equal("neighbours(47)", lea.neighbours(47), 1L);
        Check.equal("isBuilt", lea.isBuilt(), false);
        Check.equal("entries", lea.entries(), 0);
        Check.equal("written", lea.written(), 0);
    }

    private static void promise4AddEdgeBuilt() {
        LandmarkLea lea = Graphs.builtPairs();
        Check.equal("addEdge(1, 2) built", lea.addEdge(1, 2), 7);
        Check.equal("pruned", lea.pruned(), 3);
        Check.equal("written", lea.written(), 4);
        Check.equal("label 0", Graphs.label(lea, 0), "0:0:-1");
        Check.equal("label 1", Graphs.label(lea, 1), "0:1:0 1:0:-1");
        Check.equal("label 2", Graphs.label(lea, 2), "0:2:1 1:1:1 2:0:-1");
        Check.equal("label 3", Graphs.label(lea, 3), "0:3:2 1:2:2 2:1:2 3:0:-1");
        // Both ends have an entry for the hub 0, and the one is too far by two: it is replaced.
        Check.equal("addEdge(0, 3)", lea.addEdge(0, 3), 7);
        Check.equal("pruned", lea.pruned(), 6);
        Check.equal("written", lea.written(), 1);
        Check.equal("label 3 afterwards", Graphs.label(lea, 3), "0:1:0 1:2:2 2:1:2 3:0:-1");
        Check.equal("entries", lea.entries(), 10);
        Check.equal("entriesIfBuilt", lea.entriesIfBuilt(), 9);
    }

    private static void promise4AddEdgeThrows() {
        LandmarkLea lea = Graphs.joinedPairs();
        int[] wrong = {-1, 4, 48, 64, Integer.MAX_VALUE, Integer.MIN_VALUE};
        for (int v : wrong) {
            Check.throwsNoVertex("addEdge(0, " + v + ")", () -> lea.addEdge(0, v));
            Check.throwsNoVertex("addEdge(" + v + ", 0)", () -> lea.addEdge(v, 0));
            Check.throwsNoVertex("addEdge(" + v + ", same)", () -> lea.addEdge(v, v));
        }
        Check.throwsState("addEdge(3, 3)", () -> lea.addEdge(3, 3));
        Check.throwsState("addEdge(1, 2) again", () -> lea.addEdge(1, 2));
        Check.throwsState("addEdge(2, 1) again", () -> lea.addEdge(2, 1));
        Check.equal("edges after the refused ones", lea.edges(), 3);
        Check.equal("neighbours(3)", lea.neighbours(3), 4L);
        Check.equal("pruned after the refused ones", lea.pruned(), 3);
        Check.equal("written after the refused ones", lea.written(), 4);
        Check.equal("entries after the refused ones", lea.entries(), 10);
    }

    private static void promise5Clear() {
        Check.equal("clear() of nothing", new LandmarkLea().clear(), 0);
        LandmarkLea lea = Graphs.joinedPairs();
        Check.equal("clear()", lea.clear(), 3);
        Check.equal("isBuilt", lea.isBuilt(), false);
        Check.equal("vertices", lea.vertices(), 4);
        Check.equal("edges", lea.edges(), 0);
        Check.equal("neighbours(1)", lea.neighbours(1), 0L);
        Check.equal("entries", lea.entries(), 0);
        Check.equal("pruned", lea.pruned(), 0);
        Check.equal("written", lea.written(), 0);
        Check.throwsState("rank(0)", () -> lea.rank(0));
        Check.throwsState("distance(0, 0)", () -> lea.distance(0, 0));
        Check.equal("clear() again", lea.clear(), 0);
        Check.equal("addEdge(1, 2) after clear()", lea.addEdge(1, 2), 0);
        Check.equal("build() after clear()", lea.build(), 6);
        Check.equal("label 2 after clear()", Graphs.label(lea, 2), "1:1:1 2:0:-1");
    }

    private static void promises6And7Counts() {
        LandmarkLea lea = Graphs.path(5);
        Check.equal("vertices", lea.vertices(), 5);
        Check.equal("edges", lea.edges(), 4);
        lea.build();
        lea.addVertex();
        lea.addEdge(5, 0);
        Check.equal("vertices built", lea.vertices(), 6);
        Check.equal("edges built", lea.edges(), 5);
    }

    private static void promise8Neighbours() {
        LandmarkLea lea = Graphs.path(4);
        Check.equal("neighbours(0)", lea.neighbours(0), 0b0010L);
        Check.equal("neighbours(1)", lea.neighbours(1), 0b0101L);
        Check.equal("neighbours(3)", lea.neighbours(3), 0b0100L);
        int[] wrong = {-1, 4, 47, 48, 64, Integer.MAX_VALUE, Integer.MIN_VALUE};
        for (int v : wrong) {
            Check.throwsNoVertex("neighbours(" + v + ")", () -> lea.neighbours(v));
        }
    }
}
