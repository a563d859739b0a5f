/** Each sentence of "Paths" and of promises 18 to 22 that names a boundary: a test of its own. */
public final class PathsBoundaryTest {
    private static final int NONE = LandmarkLea.NONE;
    private static final int LEAST = Integer.MIN_VALUE;
    private static final int GREATEST = Integer.MAX_VALUE;
    // Of an object with 4 vertices.
    private static final int[] NO_VERTICES = {4, -1, 32, 48, 64, LEAST, GREATEST};

    public static void main(String[] args) {
        estimateIsTheLeastSum();
        distanceOfAVertexAndItself();
        distanceIsNoneIfInfinite();
        distanceOfTheLongestPath();
        distanceNoSuchVertex();
        distanceNotBuilt();
        hubIsOneByWhichTheEstimateIsReached();
        hubHasTheLeastRank();
        hubIsNoneIfInfinite();
        hubNoSuchVertex();
        hubNotBuilt();
        place0IsTheFirstVertexItself();
        pathOfAVertexAndItself();
        pathUntilTheHubIsReachedAndBack();
        pathByTheParentsOfNow();
        pathHasNoSuchVertex();
        pathIsNoneIfInfinite();
        placeBelow0();
        pathVertexNoSuchVertex();
        pathVertexNotBuilt();
        withinTheRadius0();
        withinAtMostTheRadius();
        withinTheRadius47();
        withinFiniteEstimates();
        radiusOutOfRange();
        withinNoSuchVertex();
        withinNotBuilt();
        eccentricityOfOneAlone();
        eccentricityIsFinite();
        eccentricityOfTheLongestPath();
        eccentricityNoSuchVertex();
        eccentricityNotBuilt();
        the512thCallIsAsGoodAsTheFirst();
        Check.finish("PathsBoundaryTest");
    }

    // "The estimate .. is the least sum of the distances of an entry of the one and an entry of the other"
    private static void estimateIsTheLeastSum() {
        // 2 and 3 meet at the hub 1 with 1 + 2, and at 2, whose rank is greater, with 0 + 1.
        LandmarkLea lea = Graphs.builtPath(4);
        Check.equal("label 2", Graphs.label(lea, 2), "1:1:1 2:0:-1");
        Check.equal("label 3", Graphs.label(lea, 3), "1:2:2 2:1:2 3:0:-1");
        Check.equal("distance(2, 3)", lea.distance(2, 3), 1);
        Check.equal("distance(3, 2)", lea.distance(3, 2), 1);
    }

    private static void distanceOfAVertexAndItself() {
        LandmarkLea lea = Graphs.grownPath();
        for (int v = 0; v < 48; v++) {
            Check.equal("distance(" + v + ", same)", lea.distance(v, v), 0);
        }
    }

    // Promise 18: "NONE if it is infinite"
    private static void distanceIsNoneIfInfinite() {
        LandmarkLea lea = Graphs.builtPairs();
        Check.equal("distance(1, 2) apart", lea.distance(1, 2), NONE);
        Check.equal("distance(2, 1) apart", lea.distance(2, 1), NONE);
        lea.addVertex();
        Check.equal("distance(0, 4) to a later vertex", lea.distance(0, 4), NONE);
        lea.addEdge(1, 2);
        Check.equal("distance(1, 2) joined", lea.distance(1, 2), 1);
        Check.equal("distance(3, 4) still apart", lea.distance(3, 4), NONE);
    }

    private static void distanceOfTheLongestPath() {
        Check.equal("distance(0, 47) built", Graphs.builtPath(48).distance(0, 47), 47);
        Check.equal("distance(0, 47) grown", Graphs.grownPath().distance(0, 47), 47);
        Check.equal("distance(47, 0) grown", Graphs.grownPath().distance(47, 0), 47);
    }

    // Promise 18: "Throws IndexOutOfBoundsException if there is no such vertex"
    private static void distanceNoSuchVertex() {
        LandmarkLea lea = Graphs.builtPairs();
        for (int v : NO_VERTICES) {
            Check.throwsNoVertex("distance(" + v + ", 0)", () -> lea.distance(v, 0));
            Check.throwsNoVertex("distance(0, " + v + ")", () -> lea.distance(0, v));
            Check.throwsNoVertex("distance(" + v + ", same)", () -> lea.distance(v, v));
        }
    }

    // Promise 18: "Throws IllegalStateException if the labels are not built"
    private static void distanceNotBuilt() {
        LandmarkLea lea = Graphs.path(4);
        Check.throwsState("distance(0, 1)", () -> lea.distance(0, 1));
        lea.build();
        lea.clear();
        Check.throwsState("distance(0, 0) cleared", () -> lea.distance(0, 0));
    }

    // "The hub of two vertices u and v is, of all hubs with which their estimate is reached, .."
    private static void hubIsOneByWhichTheEstimateIsReached() {
        LandmarkLea lea = Graphs.builtPath(4);
        Check.equal("hub(2, 3)", lea.hub(2, 3), 2);
        Check.equal("hub(3, 2)", lea.hub(3, 2), 2);
        Check.equal("hub(3, 3)", lea.hub(3, 3), 3);
        Check.equal("hub(0, 0)", lea.hub(0, 0), 0);
    }

    // ".. the one with the least rank", not with the least number
    private static void hubHasTheLeastRank() {
        LandmarkLea lea = Graphs.builtPath(48);
        Check.equal("hub(0, 47)", lea.hub(0, 47), 1);
        Check.equal("hub(47, 1)", lea.hub(47, 1), 1);
        LandmarkLea square = Graphs.empty(5);
        square.addEdge(0, 1);
        square.addEdge(0, 2);
        square.addEdge(3, 1);
        square.addEdge(3, 2);
        square.addEdge(3, 4);
        square.build();
        // Both 0, with the rank 1, and 3, with the rank 0, are between 1 and 2.
        Check.equal("hub(1, 2)", square.hub(1, 2), 3);
        Check.equal("path from 1 to 2", Graphs.walk(square, 1, 2), "1 3 2");
    }

    // Promise 19: "NONE if their estimate is infinite"
    private static void hubIsNoneIfInfinite() {
        LandmarkLea lea = Graphs.builtPairs();
        Check.equal("hub(0, 2) apart", lea.hub(0, 2), NONE);
        Check.equal("hub(3, 1) apart", lea.hub(3, 1), NONE);
        Check.equal("hub(0, 1)", lea.hub(0, 1), 0);
    }

    // Promise 19: "Throws IndexOutOfBoundsException if there is no such vertex"
    private static void hubNoSuchVertex() {
        LandmarkLea lea = Graphs.builtPairs();
        for (int v : NO_VERTICES) {
            Check.throwsNoVertex("hub(" + v + ", 0)", () -> lea.hub(v, 0));
            Check.throwsNoVertex("hub(0, " + v + ")", () -> lea.hub(0, v));
        }
    }

    // Promise 19: "Throws IllegalStateException if the labels are not built"
    private static void hubNotBuilt() {
        LandmarkLea lea = Graphs.path(4);
        Check.throwsState("hub(0, 1)", () -> lea.hub(0, 1));
        lea.build();
        lea.clear();
        Check.throwsState("hub(0, 0) cleared", () -> lea.hub(0, 0));
    }

    // Promise 20: "place: 0 for u itself"
    private static void place0IsTheFirstVertexItself() {
        LandmarkLea lea = Graphs.builtPath(48);
        for (int v = 0; v < 48; v++) {
            Check.equal("pathVertex(" + v + ", 0, 0)", lea.pathVertex(v, 0, 0), v);
            Check.equal("pathVertex(" + v + ", 47, 0)", lea.pathVertex(v, 47, 0), v);
        }
    }

    private static void pathOfAVertexAndItself() {
        LandmarkLea lea = Graphs.grownPath();
        int[] vertices = {0, 1, 46, 47};
        for (int v : vertices) {
            Check.equal("pathVertex(" + v + ", same, 0)", lea.pathVertex(v, v, 0), v);
            Check.equal("pathVertex(" + v + ", same, 1)", lea.pathVertex(v, v, 1), NONE);
        }
    }

    // "until the hub is reached; and then back along the path that leads from v to the hub"
    private static void pathUntilTheHubIsReachedAndBack() {
        // The ranks are 2, 0, 1, 3: the hub is u, or v, or between them.
        LandmarkLea lea = Graphs.builtPath(4);
        Check.equal("the hub is u", Graphs.walk(lea, 1, 3), "1 2 3");
        Check.equal("the hub is v", Graphs.walk(lea, 3, 1), "3 2 1");
        Check.equal("the hub is between", Graphs.walk(lea, 0, 3), "0 1 2 3");
        Check.equal("the hub is between, the other way", Graphs.walk(lea, 3, 0), "3 2 1 0");
        Check.equal("the longest path", lastOfWalk(Graphs.builtPath(48), 0, 47), 47);
        Check.equal("the longest path, grown", lastOfWalk(Graphs.grownPath(), 47, 0), 0);
    }

    /** Walks a path of 48 vertices, each a neighbour of the one before. */
    private static int lastOfWalk(LandmarkLea lea, int u, int v) {
        int at = u;
        int step = u < v ? 1 : -1;
        for (int place = 0; place < 48; place++) {
            Check.equal("place " + place, lea.pathVertex(u, v, place), u + step * place);
            at = lea.pathVertex(u, v, place);
        }
        Check.equal("place 48", lea.pathVertex(u, v, 48), NONE);
        return at;
    }

    // "from a vertex to the parent of its entry for the hub": the entries may be replaced
    private static void pathByTheParentsOfNow() {
        LandmarkLea lea = Graphs.empty(5);
        lea.build();
        lea.addEdge(0, 1);
        lea.addEdge(1, 2);
        lea.addEdge(2, 3);
        lea.addEdge(3, 4);
        Check.equal("path from 4 to 0", Graphs.walk(lea, 4, 0), "4 3 2 1 0");
        lea.addEdge(0, 3);
        Check.equal("path from 4 to 0, shorter", Graphs.walk(lea, 4, 0), "4 3 0");
        Check.equal("path from 0 to 4, shorter", Graphs.walk(lea, 0, 4), "0 3 4");
        Check.equal("path from 2 to 0 as it was", Graphs.walk(lea, 2, 0), "2 1 0");
        Check.equal("distance(4, 0)", lea.distance(4, 0), 2);
    }

    // Promise 20: "NONE if .. the path has no such vertex"
    private static void pathHasNoSuchVertex() {
        LandmarkLea lea = Graphs.builtPath(4);
        Check.equal("the last place", lea.pathVertex(0, 3, 3), 3);
        int[] places = {4, 5, 47, 48, 64, GREATEST - 1, GREATEST};
        for (int place : places) {
            Check.equal("pathVertex(0, 3, " + place + ")", lea.pathVertex(0, 3, place), NONE);
            Check.equal("pathVertex(3, 0, " + place + ")", lea.pathVertex(3, 0, place), NONE);
            Check.equal("pathVertex(1, 1, " + place + ")", lea.pathVertex(1, 1, place), NONE);
        }
    }

    // Promise 20: "NONE if their estimate is infinite"
    private static void pathIsNoneIfInfinite() {
        LandmarkLea lea = Graphs.builtPairs();
        int[] places = {0, 1, 2, 47, GREATEST};
        for (int place : places) {
            Check.equal("pathVertex(0, 2, " + place + ")", lea.pathVertex(0, 2, place), NONE);
            Check.equal("pathVertex(3, 1, " + place + ")", lea.pathVertex(3, 1, place), NONE);
        }
    }

    // Promise 20: "Throws IllegalArgumentException if place is below 0"
    private static void placeBelow0() {
        LandmarkLea lea = Graphs.builtPairs();
        int[] places = {-1, -2, -48, LEAST, LEAST + 1};
        for (int place : places) {
            Check.throwsArgument("pathVertex(0, 1, " + place + ")", () -> lea.pathVertex(0, 1, place));
            Check.throwsArgument("pathVertex(0, 0, " + place + ")", () -> lea.pathVertex(0, 0, place));
            Check.throwsArgument("pathVertex(0, 3, " + place + ") apart", () -> lea.pathVertex(0, 3, place));
        }
        Check.equal("pathVertex(0, 1, 0)", lea.pathVertex(0, 1, 0), 0);
    }

    // Promise 20: "Throws IndexOutOfBoundsException if there is no such vertex"
    private static void pathVertexNoSuchVertex() {
        LandmarkLea lea = Graphs.builtPairs();
        for (int v : NO_VERTICES) {
            Check.throwsNoVertex("pathVertex(" + v + ", 0, 0)", () -> lea.pathVertex(v, 0, 0));
            Check.throwsNoVertex("pathVertex(0, " + v + ", 0)", () -> lea.pathVertex(0, v, 0));
        }
    }

    // Promise 20: "Throws IllegalStateException if the labels are not built"
    private static void pathVertexNotBuilt() {
        LandmarkLea lea = Graphs.path(4);
        Check.throwsState("pathVertex(0, 1, 0)", () -> lea.pathVertex(0, 1, 0));
        lea.build();
        lea.clear();
        Check.throwsState("pathVertex(0, 0, 0) cleared", () -> lea.pathVertex(0, 0, 0));
    }

    // Promise 21: "radius: 0 to 47": with 0 only the vertex itself
    private static void withinTheRadius0() {
        LandmarkLea lea = Graphs.grownPath();
        for (int v = 0; v < 48; v++) {
            Check.equal("within(" + v + ", 0)", lea.within(v, 0), 1L << v);
        }
    }

    // Promise 21: "at most a radius"
    private static void withinAtMostTheRadius() {
        LandmarkLea lea = Graphs.builtPath(48);
        for (int radius = 0; radius < 47; radius++) {
            Check.equal("within(0, " + radius + ")", lea.within(0, radius), (1L << radius + 1) - 1);
        }
        Check.equal("within(47, 1)", lea.within(47, 1), 3L << 46);
        Check.equal("within(47, 46)", lea.within(47, 46), (1L << 48) - 2);
    }

    // Promise 21: "radius: 0 to 47": with 47 the whole path
    private static void withinTheRadius47() {
        Check.equal("within(0, 47) built", Graphs.builtPath(48).within(0, 47), (1L << 48) - 1);
        Check.equal("within(47, 47) grown", Graphs.grownPath().within(47, 47), (1L << 48) - 1);
    }

    // Promise 21: "whose estimate with a vertex is finite"
    private static void withinFiniteEstimates() {
        LandmarkLea lea = Graphs.builtPairs();
        Check.equal("within(0, 0)", lea.within(0, 0), 0b0001L);
        Check.equal("within(0, 47)", lea.within(0, 47), 0b0011L);
        Check.equal("within(3, 47)", lea.within(3, 47), 0b1100L);
        lea.addVertices(44);
        Check.equal("within(47, 47) of a later vertex", lea.within(47, 47), 1L << 47);
    }

    // Promise 21: "Throws IllegalArgumentException if radius is out of range"
    private static void radiusOutOfRange() {
        LandmarkLea few = Graphs.builtPairs();
        LandmarkLea full = Graphs.builtPath(48);
        int[] wrong = {-1, -2, 48, 49, 64, LEAST, GREATEST};
        for (int radius : wrong) {
            Check.throwsArgument("within(0, " + radius + ") of 4", () -> few.within(0, radius));
            Check.throwsArgument("within(47, " + radius + ") of 48", () -> full.within(47, radius));
        }
    }

    // Promise 21: "Throws IndexOutOfBoundsException if there is no such vertex"
    private static void withinNoSuchVertex() {
        LandmarkLea lea = Graphs.builtPairs();
        for (int v : NO_VERTICES) {
            Check.throwsNoVertex("within(" + v + ", 0)", () -> lea.within(v, 0));
            Check.throwsNoVertex("within(" + v + ", 47)", () -> lea.within(v, 47));
        }
    }

    // Promise 21: "Throws IllegalStateException if the labels are not built"
    private static void withinNotBuilt() {
        LandmarkLea lea = Graphs.path(4);
        Check.throwsState("within(0, 0)", () -> lea.within(0, 0));
        lea.build();
        lea.clear();
        Check.throwsState("within(3, 47) cleared", () -> lea.within(3, 47));
    }

    // Promise 22: "with any vertex": with itself too
    private static void eccentricityOfOneAlone() {
        LandmarkLea one = Graphs.empty(1);
        one.build();
        Check.equal("eccentricity(0) of one", one.eccentricity(0), 0);
        LandmarkLea apart = Graphs.empty(48);
        apart.build();
        Check.equal("eccentricity(47) of 48 apart", apart.eccentricity(47), 0);
    }

    // Promise 22: "the greatest finite estimate"
    private static void eccentricityIsFinite() {
        LandmarkLea lea = Graphs.builtPath(4);
        lea.addVertex();
        Check.equal("eccentricity(0) with one apart", lea.eccentricity(0), 3);
        Check.equal("eccentricity(1) with one apart", lea.eccentricity(1), 2);
        Check.equal("eccentricity(4), apart", lea.eccentricity(4), 0);
    }

    private static void eccentricityOfTheLongestPath() {
        LandmarkLea built = Graphs.builtPath(48);
        LandmarkLea grown = Graphs.grownPath();
        for (int v = 0; v < 48; v++) {
            Check.equal("eccentricity(" + v + ") built", built.eccentricity(v), Math.max(v, 47 - v));
            Check.equal("eccentricity(" + v + ") grown", grown.eccentricity(v), Math.max(v, 47 - v));
        }
    }

    // Promise 22: "Throws IndexOutOfBoundsException if there is no such vertex"
    private static void eccentricityNoSuchVertex() {
        LandmarkLea lea = Graphs.builtPairs();
        for (int v : NO_VERTICES) {
            Check.throwsNoVertex("eccentricity(" + v + ")", () -> lea.eccentricity(v));
        }
    }

    // Promise 22: "Throws IllegalStateException if the labels are not built"
    private static void eccentricityNotBuilt() {
        LandmarkLea lea = Graphs.path(4);
        Check.throwsState("eccentricity(0)", () -> lea.eccentricity(0));
        lea.build();
        lea.clear();
        Check.throwsState("eccentricity(3) cleared", () -> lea.eccentricity(3));
    }

    // "An object is used for at most 512 calls after it has been made"
    private static void the512thCallIsAsGoodAsTheFirst() {
        LandmarkLea lea = Graphs.builtPairs();
        // Four calls made it; 506 more change it time and again.
        for (int round = 0; round < 253; round++) {
            Check.equal("clear() in round " + round, lea.clear(), round == 0 ? 2 : 0);
            Check.equal("build() in round " + round, lea.build(), 4);
        }
        Check.equal("addEdge(0, 3), call 511", lea.addEdge(0, 3), 3);
        Check.equal("pathVertex(3, 0, 1), call 512", lea.pathVertex(3, 0, 1), 0);
    }
}
