/** The sentences on calls that throw: which exception comes first, and that nothing is changed. */
public final class RefusalTest {
    private static final int LEAST = Integer.MIN_VALUE;
    private static final int GREATEST = Integer.MAX_VALUE;
    // Of an object with 4 vertices.
    private static final int[] NO_VERTICES = {4, -1, 32, 48, 64, LEAST, GREATEST};

    /** A call of an object that is due to throw. */
    private interface Refused {
        void run(LandmarkLea lea);
    }

    /** A call with a vertex, or with a vertex and a number. */
    private interface VertexCall {
        void run(int vertex);
    }

    public static void main(String[] args) {
        countIsLookedAtBeforeTheRoom();
        theVertexBeforeTheEdge();
        theVertexBeforeTheLabels();
        theLabelsBeforeTheNumber();
        theVertexBeforeTheNumber();
        theVertexBeforeAll();
        refusedInEveryStateChangesNothing();
        refusedUnbuiltChangesNothing();
        refusedBuiltChangesNothing();
        refusedFullChangesNothing();
        Check.finish("RefusalTest");
    }

    // "if several apply, the one that it lists first is thrown": addVertices
    private static void countIsLookedAtBeforeTheRoom() {
        LandmarkLea lea = Graphs.empty(48);
        Check.throwsArgument("addVertices(49) on 48", () -> lea.addVertices(49));
        Check.throwsArgument("addVertices(" + GREATEST + ") on 48", () -> lea.addVertices(GREATEST));
        Check.throwsState("addVertices(48) on 48", () -> lea.addVertices(48));
    }

    // addEdge
    private static void theVertexBeforeTheEdge() {
        LandmarkLea lea = Graphs.path(4);
        for (int v : NO_VERTICES) {
            Check.throwsNoVertex("addEdge(" + v + ", same)", () -> lea.addEdge(v, v));
        }
        LandmarkLea none = new LandmarkLea();
        Check.throwsNoVertex("addEdge(0, 0) of nothing", () -> none.addEdge(0, 0));
    }

    // rank, labelSize, distance, hub, eccentricity
    private static void theVertexBeforeTheLabels() {
        LandmarkLea lea = Graphs.path(4);
        for (int v : NO_VERTICES) {
            Check.throwsNoVertex("rank(" + v + ")", () -> lea.rank(v));
            Check.throwsNoVertex("labelSize(" + v + ")", () -> lea.labelSize(v));
            Check.throwsNoVertex("eccentricity(" + v + ")", () -> lea.eccentricity(v));
            Check.throwsNoVertex("distance(0, " + v + ")", () -> lea.distance(0, v));
            Check.throwsNoVertex("distance(" + v + ", 0)", () -> lea.distance(v, 0));
            Check.throwsNoVertex("hub(0, " + v + ")", () -> lea.hub(0, v));
            Check.throwsNoVertex("hub(" + v + ", 0)", () -> lea.hub(v, 0));
        }
    }

    // entryHub, entryDistance, entryParent, pathVertex, within
    private static void theLabelsBeforeTheNumber() {
        LandmarkLea lea = Graphs.path(4);
        int[] wrong = {-1, 48, LEAST, GREATEST};
        for (int number : wrong) {
            Check.throwsState("entryHub, " + number, () -> lea.entryHub(0, number));
            Check.throwsState("entryDistance, " + number, () -> lea.entryDistance(0, number));
            Check.throwsState("entryParent, " + number, () -> lea.entryParent(0, number));
            Check.throwsState("pathVertex, " + number, () -> lea.pathVertex(0, 3, number));
            Check.throwsState("within, " + number, () -> lea.within(0, number));
        }
    }

    private static void theVertexBeforeTheNumber() {
        vertexComesFirst(Graphs.joinedPairs(), "built");
    }

    private static void theVertexBeforeAll() {
        vertexComesFirst(Graphs.path(4), "unbuilt");
    }

    private static void vertexComesFirst(LandmarkLea lea, String state) {
        int[] numbers = {-1, 48};
        for (int number : numbers) {
            String rest = ", " + number + ", " + state;
            each("entryHub" + rest, v -> lea.entryHub(v, number));
            each("entryDistance" + rest, v -> lea.entryDistance(v, number));
            each("entryParent" + rest, v -> lea.entryParent(v, number));
            each("pathVertex to 0" + rest, v -> lea.pathVertex(v, 0, number));
            each("pathVertex from 0" + rest, v -> lea.pathVertex(0, v, number));
            each("within" + rest, v -> lea.within(v, number));
        }
    }

    private static void each(String what, VertexCall call) {
        for (int v : NO_VERTICES) {
            Check.throwsNoVertex(what + ", of " + v, () -> call.run(v));
        }
    }

    // "A call that throws changes nothing."
    private static void refusedInEveryStateChangesNothing() {
        Refused[] calls = {
            lea -> lea.addVertices(0), lea -> lea.addVertices(-1), lea -> lea.addVertices(49),
            lea -> lea.addVertices(GREATEST), lea -> lea.addVertices(LEAST), lea -> lea.addVertices(48),
            lea -> lea.addEdge(-1, 0), lea -> lea.addEdge(0, -1), lea -> lea.addEdge(0, 48),
            lea -> lea.addEdge(48, 0), lea -> lea.addEdge(64, 0), lea -> lea.addEdge(0, 64),
            lea -> lea.addEdge(0, GREATEST), lea -> lea.addEdge(LEAST, 0), lea -> lea.addEdge(0, 0),
            lea -> lea.addEdge(2, 2), lea -> lea.addEdge(1, 2), lea -> lea.addEdge(2, 1),
            lea -> lea.neighbours(-1), lea -> lea.neighbours(48), lea -> lea.rank(-1), lea -> lea.rank(48),
            lea -> lea.labelSize(-1), lea -> lea.labelSize(48), lea -> lea.eccentricity(-1),
            lea -> lea.eccentricity(48), lea -> lea.distance(0, 48), lea -> lea.hub(48, 0),
            lea -> lea.entryHub(0, -1), lea -> lea.entryHub(0, 48), lea -> lea.entryHub(48, 0),
            lea -> lea.entryDistance(0, -1), lea -> lea.entryDistance(0, 48), lea -> lea.entryDistance(48, 0),
            lea -> lea.entryParent(0, -1), lea -> lea.entryParent(0, 48), lea -> lea.entryParent(48, 0),
            lea -> lea.pathVertex(0, 1, -1), lea -> lea.pathVertex(0, 48, 0), lea -> lea.pathVertex(48, 0, 0),
            lea -> lea.within(0, -1), lea -> lea.within(0, 48), lea -> lea.within(48, 0),
        };
        for (int call = 0; call < calls.length; call++) {
            changesNothing("unbuilt, call " + call, calls[call], Graphs.path(4), Graphs.path(4));
            changesNothing("built, call " + call, calls[call], Graphs.builtPath(4), Graphs.builtPath(4));
            changesNothing("extended, call " + call, calls[call], Graphs.joinedPairs(), Graphs.joinedPairs());
        }
    }

    private static void refusedUnbuiltChangesNothing() {
        Refused[] calls = {
            lea -> lea.rank(0), lea -> lea.labelSize(0), lea -> lea.entryHub(0, 0), lea -> lea.entryDistance(0, 0),
            lea -> lea.entryParent(0, 0), lea -> lea.distance(0, 0), lea -> lea.hub(0, 0),
            lea -> lea.pathVertex(0, 0, 0), lea -> lea.within(0, 0), lea -> lea.eccentricity(0),
        };
        for (int call = 0; call < calls.length; call++) {
            changesNothing("never built, call " + call, calls[call], Graphs.path(4), Graphs.path(4));
            changesNothing("cleared, call " + call, calls[call], cleared(), cleared());
        }
    }

    private static LandmarkLea cleared() {
        LandmarkLea lea = Graphs.joinedPairs();
        lea.clear();
        lea.addEdge(0, 3);
        return lea;
    }

    private static void refusedBuiltChangesNothing() {
        Refused[] calls = {
            lea -> lea.entryHub(0, 1), lea -> lea.entryDistance(0, 1), lea -> lea.entryParent(0, 1),
            lea -> lea.addEdge(3, 2), lea -> lea.addEdge(4, 0), lea -> lea.addEdge(0, 4),
        };
        for (int call = 0; call < calls.length; call++) {
            changesNothing("extended, last call " + call, calls[call], Graphs.joinedPairs(), Graphs.joinedPairs());
        }
    }

    private static void refusedFullChangesNothing() {
        Refused[] calls = {lea -> lea.addVertex(), lea -> lea.addVertices(1), lea -> lea.addVertices(48)};
        for (int call = 0; call < calls.length; call++) {
            changesNothing("full, call " + call, calls[call], Graphs.empty(48), Graphs.empty(48));
            changesNothing("full and built, call " + call, calls[call], fullAndBuilt(), fullAndBuilt());
        }
        LandmarkLea nearlyFull = Graphs.builtPath(4);
        nearlyFull.addVertices(43);
        LandmarkLea twin = Graphs.builtPath(4);
        twin.addVertices(43);
        changesNothing("two are too many for 47", lea -> lea.addVertices(2), nearlyFull, twin);
    }

    private static LandmarkLea fullAndBuilt() {
        LandmarkLea lea = Graphs.empty(48);
        lea.addEdge(0, 47);
        lea.build();
        return lea;
    }

    /** The twin is an object with the same calls behind it, but without the refused one. */
    private static void changesNothing(String what, Refused call, LandmarkLea lea, LandmarkLea twin) {
        boolean refused = false;
        try {
            call.run(lea);
        } catch (RuntimeException e) {
            refused = true;
        }
        Check.equal(what + " is refused", refused, true);
        Check.equal(what + ", the state behind it", Graphs.state(lea), Graphs.state(twin));
        if (lea.vertices() == 4) {
            goOn(lea);
            goOn(twin);
            Check.equal(what + ", the state later", Graphs.state(lea), Graphs.state(twin));
        }
    }

    /** What a state does not show may show when vertices and edges are added to it. */
    private static void goOn(LandmarkLea lea) {
        lea.addVertex();
        lea.addEdge(0, 2);
        lea.addEdge(4, 3);
        lea.build();
    }
}
