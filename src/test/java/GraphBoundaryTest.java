/** Each sentence of "Terms" and of promises 1 to 8 that names a boundary: a test of its own. */
public final class GraphBoundaryTest {
    private static final int LEAST = Integer.MIN_VALUE;
    private static final int GREATEST = Integer.MAX_VALUE;

    public static void main(String[] args) {
        numberedFrom0InTheirOrder();
        atMost48();
        bitVStandsForTheVertexV();
        newObjectHasNoVertices();
        newObjectIsNotBuilt();
        addVertexReturnsItsNumber();
        addVertexThrowsIfThereAre48();
        countIsFrom1To48();
        countOutOfRange();
        addVerticesWouldBeMoreThan48();
        addVerticesOneByOne();
        addEdgeNoSuchVertex();
        addEdgeBothTheSameVertex();
        addEdgeThereIsAnEdge();
        addEdgeReturns0IfNotBuilt();
        addEdgeExtendsIfBuilt();
        clearReturnsHowManyEdgesThereWere();
        clearRemovesAllEdges();
        clearForgetsTheLabels();
        clearKeepsTheVertices();
        verticesFrom0To48();
        edgesOfNothingAndOfManyVertices();
        neighboursOfOneAndOfAll();
        neighboursNoSuchVertex();
        Check.finish("GraphBoundaryTest");
    }

    // "Vertices are numbered from 0 in the order in which they are added"
    private static void numberedFrom0InTheirOrder() {
        LandmarkLea lea = new LandmarkLea();
        Check.equal("the first vertex", lea.addVertex(), 0);
        Check.equal("the second vertex", lea.addVertex(), 1);
        Check.equal("two more", lea.addVertices(2), 4);
        Check.equal("the fifth vertex", lea.addVertex(), 4);
        lea.build();
        Check.equal("the sixth vertex, built", lea.addVertex(), 5);
        lea.clear();
        Check.equal("the seventh vertex, cleared", lea.addVertex(), 6);
    }

    // "there are at most 48"
    private static void atMost48() {
        LandmarkLea halves = Graphs.empty(24);
        Check.equal("24 and 24", halves.addVertices(24), 48);
        Check.throwsState("the 49th by addVertex", halves::addVertex);
        Check.throwsState("the 49th by addVertices", () -> halves.addVertices(1));
        Check.equal("vertices", halves.vertices(), 48);
        Check.equal("neighbours(47)", halves.neighbours(47), 0L);
        Check.throwsNoVertex("neighbours(48)", () -> halves.neighbours(48));
    }

    // "Sets of vertices are bit masks: bit v stands for the vertex v."
    private static void bitVStandsForTheVertexV() {
        LandmarkLea lea = Graphs.empty(48);
        int[] ends = {0, 31, 32, 47};
        long due = 0L;
        for (int v : ends) {
            lea.addEdge(v, 1);
            due |= 1L << v;
            Check.equal("neighbours(1) with " + v, lea.neighbours(1), due);
            Check.equal("neighbours(" + v + ")", lea.neighbours(v), 2L);
        }
        lea.build();
        for (int v : ends) {
            Check.equal("within(" + v + ", 0)", lea.within(v, 0), 1L << v);
            Check.equal("within(" + v + ", 1)", lea.within(v, 1), 1L << v | 2L);
            Check.equal("within(" + v + ", 2)", lea.within(v, 2), due | 2L);
        }
    }

    // Promise 1: "No vertices"
    private static void newObjectHasNoVertices() {
        LandmarkLea lea = new LandmarkLea();
        Check.equal("vertices", lea.vertices(), 0);
        Check.equal("edges", lea.edges(), 0);
        Check.throwsNoVertex("neighbours(0)", () -> lea.neighbours(0));
        Check.throwsNoVertex("addEdge(0, 0)", () -> lea.addEdge(0, 0));
        Check.throwsNoVertex("rank(0)", () -> lea.rank(0));
        Check.throwsNoVertex("distance(0, 0)", () -> lea.distance(0, 0));
        Check.equal("two objects are apart", Graphs.empty(2).vertices() + lea.vertices(), 2);
    }

    // Promise 1: "the labels are not built"
    private static void newObjectIsNotBuilt() {
        LandmarkLea lea = new LandmarkLea();
        Check.equal("isBuilt", lea.isBuilt(), false);
        lea.addVertex();
        Check.equal("isBuilt with a vertex", lea.isBuilt(), false);
        Check.throwsState("rank(0)", () -> lea.rank(0));
    }

    // Promise 2: "Returns its number."
    private static void addVertexReturnsItsNumber() {
        LandmarkLea lea = Graphs.empty(46);
        Check.equal("addVertex() on 46", lea.addVertex(), 46);
        lea.build();
        Check.equal("addVertex() on 47", lea.addVertex(), 47);
    }

    // Promise 2: "Throws IllegalStateException if there are 48"
    private static void addVertexThrowsIfThereAre48() {
        LandmarkLea lea = Graphs.empty(47);
        Check.equal("addVertex() on 47", lea.addVertex(), 47);
        Check.throwsState("addVertex() on 48", lea::addVertex);
        lea.build();
        Check.throwsState("addVertex() on 48, built", lea::addVertex);
        Check.equal("entries", lea.entries(), 48);
        lea.clear();
        Check.throwsState("addVertex() on 48, cleared", lea::addVertex);
        Check.equal("vertices", lea.vertices(), 48);
    }

    // Promise 3: "count: 1 to 48"
    private static void countIsFrom1To48() {
        Check.equal("addVertices(1)", new LandmarkLea().addVertices(1), 1);
        Check.equal("addVertices(2)", new LandmarkLea().addVertices(2), 2);
        Check.equal("addVertices(47)", new LandmarkLea().addVertices(47), 47);
        Check.equal("addVertices(48)", new LandmarkLea().addVertices(48), 48);
    }

    // Promise 3: "Throws IllegalArgumentException if count is out of range"
    private static void countOutOfRange() {
        int[] counts = {0, -1, -48, LEAST, LEAST + 1, 49, 64, GREATEST - 47, GREATEST};
        int[] sizes = {0, 1, 47, 48};
        for (int size : sizes) {
            LandmarkLea lea = size == 0 ? new LandmarkLea() : Graphs.empty(size);
            for (int count : counts) {
                Check.throwsArgument("addVertices(" + count + ") on " + size, () -> lea.addVertices(count));
            }
            Check.equal("vertices", lea.vertices(), size);
        }
    }

    // Promise 3: "Throws IllegalStateException if there would be more than 48"
    private static void addVerticesWouldBeMoreThan48() {
        for (int size = 1; size <= 48; size++) {
            LandmarkLea lea = Graphs.empty(size);
            int tooMany = 49 - size;
            Check.throwsState("addVertices(" + tooMany + ") on " + size, () -> lea.addVertices(tooMany));
            Check.throwsState("addVertices(48) on " + size, () -> lea.addVertices(48));
            Check.equal("vertices", lea.vertices(), size);
            if (size < 48) {
                Check.equal("addVertices(" + (48 - size) + ") on " + size, lea.addVertices(48 - size), 48);
            }
        }
    }

    // Promise 3: "Adds vertices, one by one."
    private static void addVerticesOneByOne() {
        LandmarkLea lea = new LandmarkLea();
        lea.build();
        Check.equal("addVertices(48) built", lea.addVertices(48), 48);
        for (int v = 0; v < 48; v++) {
            Check.equal("rank(" + v + ")", lea.rank(v), v);
            Check.equal("label " + v, Graphs.label(lea, v), v + ":0:-1");
        }
        Check.equal("entries", lea.entries(), 48);
    }

    // Promise 4: "Throws IndexOutOfBoundsException if there is no such vertex"
    private static void addEdgeNoSuchVertex() {
        LandmarkLea lea = Graphs.empty(3);
        int[] wrong = {3, -1, 32, 47, 48, 63, 64, 65, LEAST, GREATEST};
        for (int v : wrong) {
            Check.throwsNoVertex("addEdge(" + v + ", 1)", () -> lea.addEdge(v, 1));
            Check.throwsNoVertex("addEdge(1, " + v + ")", () -> lea.addEdge(1, v));
        }
        Check.equal("edges", lea.edges(), 0);
        Check.equal("addEdge(0, 2)", lea.addEdge(0, 2), 0);
        lea.addVertex();
        Check.equal("addEdge(3, 1), now that there is 3", lea.addEdge(3, 1), 0);
        Check.throwsNoVertex("addEdge(4, 1)", () -> lea.addEdge(4, 1));
    }

    // Promise 4: "Throws IllegalStateException if both are the same vertex"
    private static void addEdgeBothTheSameVertex() {
        LandmarkLea lea = Graphs.empty(48);
        int[] vertices = {0, 1, 46, 47};
        for (int v : vertices) {
            Check.throwsState("addEdge(" + v + ", same)", () -> lea.addEdge(v, v));
        }
        lea.build();
        for (int v : vertices) {
            Check.throwsState("addEdge(" + v + ", same), built", () -> lea.addEdge(v, v));
            Check.equal("neighbours(" + v + ")", lea.neighbours(v), 0L);
        }
        Check.equal("edges", lea.edges(), 0);
    }

    // Promise 4: ".. or there is an edge between them"
    private static void addEdgeThereIsAnEdge() {
        LandmarkLea lea = Graphs.empty(48);
        lea.addEdge(47, 0);
        Check.throwsState("addEdge(47, 0) again", () -> lea.addEdge(47, 0));
        Check.throwsState("addEdge(0, 47) again", () -> lea.addEdge(0, 47));
        lea.build();
        Check.throwsState("addEdge(47, 0) again, built", () -> lea.addEdge(47, 0));
        lea.addEdge(46, 47);
        Check.throwsState("addEdge(47, 46) again, added built", () -> lea.addEdge(47, 46));
        Check.throwsState("addEdge(46, 47) again, added built", () -> lea.addEdge(46, 47));
        Check.equal("edges", lea.edges(), 2);
        // A path between them is no edge between them, and clear() leaves none.
        Check.equal("addEdge(0, 46)", lea.addEdge(0, 46) > 0, true);
        lea.clear();
        Check.equal("addEdge(47, 0) cleared", lea.addEdge(47, 0), 0);
    }

    // Promise 4: "0 if the labels are not built"
    private static void addEdgeReturns0IfNotBuilt() {
        LandmarkLea lea = Graphs.empty(3);
        Check.equal("addEdge(0, 1) new", lea.addEdge(0, 1), 0);
        lea.entriesIfBuilt();
        Check.equal("addEdge(1, 2) behind entriesIfBuilt()", lea.addEdge(1, 2), 0);
        lea.build();
        lea.clear();
        Check.equal("addEdge(0, 1) cleared", lea.addEdge(0, 1), 0);
        Check.equal("isBuilt", lea.isBuilt(), false);
    }

    // Promise 4: "If the labels are built, they are extended." The least edge, and the greatest way.
    private static void addEdgeExtendsIfBuilt() {
        LandmarkLea two = Graphs.empty(2);
        two.build();
        // The hub 0 reaches 1, and from there 0, which is pruned; the hub 1 is pruned at 0.
        Check.equal("addEdge(0, 1) of two", two.addEdge(0, 1), 3);
        Check.equal("label 1 of two", Graphs.label(two, 1), "0:1:0 1:0:-1");
        LandmarkLea many = Graphs.empty(48);
        many.build();
        for (int v = 0; v < 47; v++) {
            // Each of the v + 1 hubs of v reaches v + 1 and is pruned back at v; the hub v + 1 is pruned at v.
            Check.equal("addEdge(" + v + ", " + (v + 1) + ")", many.addEdge(v, v + 1), 2 * v + 3);
        }
    }

    // Promise 5: "Returns how many edges there were."
    private static void clearReturnsHowManyEdgesThereWere() {
        Check.equal("clear() of a new object", new LandmarkLea().clear(), 0);
        Check.equal("clear() of vertices alone", Graphs.empty(48).clear(), 0);
        LandmarkLea lea = Graphs.builtPath(48);
        lea.addEdge(0, 47);
        Check.equal("clear() of a ring", lea.clear(), 48);
        Check.equal("clear() again", lea.clear(), 0);
        lea.addEdge(0, 47);
        Check.equal("clear() of one edge", lea.clear(), 1);
    }

    // Promise 5: "Removes all edges"
    private static void clearRemovesAllEdges() {
        LandmarkLea lea = Graphs.path(48);
        lea.clear();
        Check.equal("edges", lea.edges(), 0);
        for (int v = 0; v < 48; v++) {
            Check.equal("neighbours(" + v + ")", lea.neighbours(v), 0L);
        }
        Check.equal("build()", lea.build(), 48);
        Check.equal("distance(0, 1)", lea.distance(0, 1), LandmarkLea.NONE);
    }

    // Promise 5: "forgets the labels: they are not built then"
    private static void clearForgetsTheLabels() {
        LandmarkLea lea = Graphs.joinedPairs();
        lea.clear();
        Check.equal("isBuilt", lea.isBuilt(), false);
        Check.equal("entries", lea.entries(), 0);
        Check.throwsState("labelSize(3)", () -> lea.labelSize(3));
        Check.equal("addVertex() gets no label", lea.addVertex(), 4);
        Check.equal("entries with it", lea.entries(), 0);
        lea.build();
        Check.equal("entries built anew", lea.entries(), 5);
        Check.equal("label 3 built anew", Graphs.label(lea, 3), "3:0:-1");
    }

    // Promise 5: "The vertices stay."
    private static void clearKeepsTheVertices() {
        LandmarkLea lea = Graphs.builtPath(48);
        lea.clear();
        Check.equal("vertices", lea.vertices(), 48);
        LandmarkLea one = Graphs.empty(1);
        one.clear();
        Check.equal("vertices of one", one.vertices(), 1);
        Check.throwsNoVertex("neighbours(1)", () -> one.neighbours(1));
    }

    // Promise 6: "Returns the number of vertices."
    private static void verticesFrom0To48() {
        LandmarkLea lea = new LandmarkLea();
        for (int count = 0; count < 48; count++) {
            Check.equal("vertices", lea.vertices(), count);
            lea.addVertex();
        }
        Check.equal("vertices, full", lea.vertices(), 48);
    }

    // Promise 7: "Returns the number of edges."
    private static void edgesOfNothingAndOfManyVertices() {
        Check.equal("edges of nothing", new LandmarkLea().edges(), 0);
        LandmarkLea lea = Graphs.empty(22);
        int due = 0;
        for (int a = 0; a < 22; a++) {
            for (int b = 0; b < a; b++) {
                lea.addEdge(a, b);
                due++;
                Check.equal("edges", lea.edges(), due);
            }
        }
        Check.equal("edges of all pairs", lea.edges(), 231);
    }

    // Promise 8: "Returns the neighbours of a vertex."
    private static void neighboursOfOneAndOfAll() {
        Check.equal("neighbours of one alone", Graphs.empty(1).neighbours(0), 0L);
        LandmarkLea star = Graphs.empty(48);
        for (int v = 0; v < 47; v++) {
            star.addEdge(47, v);
        }
        Check.equal("neighbours of the centre", star.neighbours(47), (1L << 47) - 1);
        Check.equal("neighbours of a ray", star.neighbours(46), 1L << 47);
    }

    // Promise 8: "Throws IndexOutOfBoundsException if there is no such vertex"
    private static void neighboursNoSuchVertex() {
        LandmarkLea lea = Graphs.empty(48);
        int[] wrong = {-1, 48, 63, 64, LEAST, GREATEST};
        for (int v : wrong) {
            Check.throwsNoVertex("neighbours(" + v + ")", () -> lea.neighbours(v));
        }
        LandmarkLea few = Graphs.empty(2);
        Check.equal("neighbours(1) of two", few.neighbours(1), 0L);
        Check.throwsNoVertex("neighbours(2) of two", () -> few.neighbours(2));
    }
}
