/** Promises 18 to 22: distances and paths. */
public final class PathsTest {
    private static final int[] NO_VERTICES = {-1, 4, 48, Integer.MAX_VALUE, Integer.MIN_VALUE};

    public static void main(String[] args) {
        promise18Distance();
        promise19Hub();
        promise20PathVertex();
        promise20PathVertexThrows();
        promise21Within();
        promise21WithinThrows();
        promise22Eccentricity();
        theLongestPath();
        Check.finish("PathsTest");
    }

    private static void promise18Distance() {
        LandmarkLea lea = Graphs.builtPairs();
        Check.equal("distance(0, 1)", lea.distance(0, 1), 1);
        Check.equal("distance(0, 0)", lea.distance(0, 0), 0);
        Check.equal("distance(0, 3) apart", lea.distance(0, 3), LandmarkLea.NONE);
        lea.addEdge(1, 2);
        Check.equal("distance(0, 3)", lea.distance(0, 3), 3);
        Check.equal("distance(3, 0)", lea.distance(3, 0), 3);
        lea.addEdge(0, 3);
        Check.equal("distance(0, 3) joined", lea.distance(0, 3), 1);
        throwsForPairs(lea, "distance", (u, v) -> lea.distance(u, v));
    }

    private static void promise19Hub() {
        LandmarkLea lea = Graphs.builtPairs();
        Check.equal("hub(0, 1)", lea.hub(0, 1), 0);
        Check.equal("hub(3, 3)", lea.hub(3, 3), 3);
        Check.equal("hub(1, 2) apart", lea.hub(1, 2), LandmarkLea.NONE);
        lea.addEdge(1, 2);
        Check.equal("hub(1, 3)", lea.hub(1, 3), 1);
        Check.equal("hub(0, 3)", lea.hub(0, 3), 0);
        throwsForPairs(lea, "hub", (u, v) -> lea.hub(u, v));
        hubOfTwoThatTie();
    }

    /** In the square 0 - 2 - 1 - 3 both 0 and 1 are on shortest paths from 2 to 3. */
    private static void hubOfTwoThatTie() {
        LandmarkLea lea = Graphs.empty(4);
        lea.addEdge(1, 2);
        lea.addEdge(1, 3);
        lea.addEdge(0, 2);
        lea.addEdge(0, 3);
        lea.build();
        Check.equal("label 2", Graphs.label(lea, 2), "0:1:0 1:1:1 2:0:-1");
        Check.equal("label 3", Graphs.label(lea, 3), "0:1:0 1:1:1 3:0:-1");
        Check.equal("hub(2, 3) of two", lea.hub(2, 3), 0);
        Check.equal("path from 2 to 3", Graphs.walk(lea, 2, 3), "2 0 3");
        // With one edge more the vertex 1 has the least rank, and is the hub though its number is greater.
        lea.addEdge(1, lea.addVertex());
        lea.build();
        Check.equal("hub(2, 3) anew", lea.hub(2, 3), 1);
        Check.equal("path from 2 to 3 anew", Graphs.walk(lea, 2, 3), "2 1 3");
    }

    private static void promise20PathVertex() {
        LandmarkLea lea = Graphs.builtPairs();
        Check.equal("path to itself", Graphs.walk(lea, 2, 2), "2");
        Check.equal("path apart", lea.pathVertex(0, 3, 0), LandmarkLea.NONE);
        lea.addEdge(1, 2);
        Check.equal("path from 0 to 3", Graphs.walk(lea, 0, 3), "0 1 2 3");
        Check.equal("path from 3 to 0", Graphs.walk(lea, 3, 0), "3 2 1 0");
        Check.equal("path from 3 to 1", Graphs.walk(lea, 3, 1), "3 2 1");
        Check.equal("behind the path", lea.pathVertex(0, 3, 4), LandmarkLea.NONE);
        Check.equal("far behind the path", lea.pathVertex(0, 3, Integer.MAX_VALUE), LandmarkLea.NONE);
        lea.addEdge(0, 3);
        Check.equal("path from 1 to 3", Graphs.walk(lea, 1, 3), "1 0 3");
        LandmarkLea through = Graphs.builtPath(5);
        Check.equal("path through a hub inside", Graphs.walk(through, 4, 0), "4 3 2 1 0");
    }

    private static void promise20PathVertexThrows() {
        LandmarkLea lea = Graphs.builtPairs();
        throwsForPairs(lea, "pathVertex", (u, v) -> lea.pathVertex(u, v, -1));
        LandmarkLea built = Graphs.builtPairs();
        Check.throwsArgument("place -1", () -> built.pathVertex(0, 1, -1));
        Check.throwsArgument("place -1 apart", () -> built.pathVertex(0, 3, -1));
        Check.throwsArgument("least place", () -> built.pathVertex(0, 1, Integer.MIN_VALUE));
    }

    private static void promise21Within() {
        LandmarkLea lea = Graphs.builtPath(4);
        Check.equal("within(1, 0)", lea.within(1, 0), 0b0010L);
        Check.equal("within(1, 1)", lea.within(1, 1), 0b0111L);
        Check.equal("within(1, 2)", lea.within(1, 2), 0b1111L);
        Check.equal("within(1, 47)", lea.within(1, 47), 0b1111L);
        lea.addVertex();
        Check.equal("within(1, 47) with one apart", lea.within(1, 47), 0b01111L);
        Check.equal("within(4, 47)", lea.within(4, 47), 0b10000L);
        lea.addEdge(4, 0);
        Check.equal("within(4, 1)", lea.within(4, 1), 0b10001L);
    }

    private static void promise21WithinThrows() {
        LandmarkLea lea = Graphs.builtPairs();
        int[] wrong = {-1, 48, Integer.MAX_VALUE, Integer.MIN_VALUE};
        for (int radius : wrong) {
            Check.throwsArgument("within(0, " + radius + ")", () -> lea.within(0, radius));
        }
        for (int v : NO_VERTICES) {
            Check.throwsNoVertex("within(" + v + ", 48)", () -> lea.within(v, 48));
        }
        lea.clear();
        Check.throwsState("within(0, 48) unbuilt", () -> lea.within(0, 48));
        Check.throwsState("within(0, 0) unbuilt", () -> lea.within(0, 0));
        Check.throwsNoVertex("within(4, 48) unbuilt", () -> lea.within(4, 48));
    }

    private static void promise22Eccentricity() {
        LandmarkLea lea = Graphs.builtPath(4);
        Check.equal("eccentricity(0)", lea.eccentricity(0), 3);
        Check.equal("eccentricity(1)", lea.eccentricity(1), 2);
        lea.addVertex();
        Check.equal("eccentricity(1) with one apart", lea.eccentricity(1), 2);
        Check.equal("eccentricity(4)", lea.eccentricity(4), 0);
        lea.addEdge(4, 3);
        Check.equal("eccentricity(1) extended", lea.eccentricity(1), 3);
        lea.addEdge(4, 0);
        Check.equal("eccentricity(1) in the ring", lea.eccentricity(1), 2);
        Check.throwsNoVertex("eccentricity(5)", () -> lea.eccentricity(5));
        Check.throwsNoVertex("eccentricity(-1)", () -> lea.eccentricity(-1));
        lea.clear();
        Check.throwsState("eccentricity(0) unbuilt", () -> lea.eccentricity(0));
        Check.throwsNoVertex("eccentricity(5) unbuilt", () -> lea.eccentricity(5));
    }

    private static void theLongestPath() {
        LandmarkLea lea = Graphs.builtPath(48);
        Check.equal("longest distance", lea.distance(0, 47), 47);
        Check.equal("longest eccentricity", lea.eccentricity(47), 47);
        Check.equal("within(0, 46)", lea.within(0, 46), (1L << 47) - 1);
        Check.equal("within(0, 47)", lea.within(0, 47), (1L << 48) - 1);
        for (int place = 0; place < 48; place++) {
            Check.equal("place " + place, lea.pathVertex(47, 0, place), 47 - place);
        }
        Check.equal("place 48", lea.pathVertex(47, 0, 48), LandmarkLea.NONE);
    }

    /** A call with two vertices. */
    private interface PairCall {
        void run(int u, int v);
    }

    /** Leaves the object, which has 4 vertices and is built, without labels. */
    private static void throwsForPairs(LandmarkLea lea, String name, PairCall call) {
        for (int v : NO_VERTICES) {
            Check.throwsNoVertex(name + "(" + v + ", 0)", () -> call.run(v, 0));
            Check.throwsNoVertex(name + "(0, " + v + ")", () -> call.run(0, v));
        }
        lea.clear();
        Check.throwsState(name + " unbuilt", () -> call.run(0, 1));
        Check.throwsState(name + " unbuilt, of itself", () -> call.run(0, 0));
        Check.throwsNoVertex(name + " unbuilt, no vertex", () -> call.run(0, 4));
        Check.throwsNoVertex(name + " unbuilt, no vertex first", () -> call.run(4, 0));
    }
}
