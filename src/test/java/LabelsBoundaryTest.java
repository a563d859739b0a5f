/** Each sentence of "Labels", of "Searches" and of promises 9 to 17, 23 and 24 that names a boundary: a test. */
public final class LabelsBoundaryTest {
    private static final int NONE = LandmarkLea.NONE;
    private static final int[] WRONG_NUMBERS = {-1, 48, 63, 64, Integer.MIN_VALUE, Integer.MAX_VALUE};

    public static void main(String[] args) {
        ranksFrom0On();
        ranksByFallingDegrees();
        ranksOfTheSameDegreeByRisingNumbers();
        laterVertexGetsTheNextRank();
        atMostOneEntryForAHub();
        entriesByRisingRanks();
        prunedIfTheEstimateIsAtMostTheDistance();
        notPrunedIfTheEstimateIsMore();
        notInTheQueueTwice();
        neighboursByRisingNumbers();
        searchStartsAtTheVertexItself();
        searchGoesOnUntilTheQueueIsEmpty();
        hubsOfTheFirstVertexAlone();
        hubsOfTheSecondVertexAlone();
        hubsOfBothVertices();
        hubsByRisingRanks();
        onlyEntriesFromBeforeTheEdge();
        laterVertexGetsOneEntry();
        buildOfNothingAndOfOne();
        buildWhetherBuiltOrNot();
        isBuiltOnlyBehindBuild();
        rankNoSuchVertex();
        rankNotBuilt();
        entriesAre0IfNotBuilt();
        entriesOfTheFullestLabels();
        entriesIfBuiltNow();
        entriesIfBuiltChangesNothing();
        labelSizeFrom1To48();
        labelSizeNoSuchVertex();
        labelSizeNotBuilt();
        entryIs0ForTheFirstOne();
        entryHubOfTheLastOne();
        entryDistanceOfTheLastOne();
        entryParentIsNoneIfItHasNone();
        entryHubNoSuchVertex();
        entryDistanceNoSuchVertex();
        entryParentNoSuchVertex();
        entryHubNotBuilt();
        entryDistanceNotBuilt();
        entryParentNotBuilt();
        entryHubNoSuchEntry();
        entryDistanceNoSuchEntry();
        entryParentNoSuchEntry();
        countsAre0IfThereWasNoCall();
        countsAre0Cleared();
        countsStayUntilTheNextCall();
        countsOfTheLaterCall();
        countsOfNothing();
        writtenCountsPutAndReplaced();
        prunedCountsAllSearches();
        Check.finish("LabelsBoundaryTest");
    }

    // "the vertices get ranks from 0 on"
    private static void ranksFrom0On() {
        LandmarkLea one = Graphs.empty(1);
        one.build();
        Check.equal("rank of one alone", one.rank(0), 0);
        LandmarkLea lea = Graphs.builtPath(48);
        long ranks = 0L;
        for (int v = 0; v < 48; v++) {
            ranks |= 1L << lea.rank(v);
        }
        Check.equal("all ranks", ranks, (1L << 48) - 1);
    }

    // "by falling degrees": from 47 down to 0
    private static void ranksByFallingDegrees() {
        LandmarkLea star = Graphs.empty(48);
        for (int v = 0; v < 47; v++) {
            star.addEdge(47, v);
        }
        star.build();
        Check.equal("rank of the degree 47", star.rank(47), 0);
        for (int v = 0; v < 47; v++) {
            Check.equal("rank of the degree 1", star.rank(v), v + 1);
        }
        degreesOfGreatNumbers();
        LandmarkLea lea = Graphs.empty(5);
        lea.addEdge(4, 3);
        lea.addEdge(4, 2);
        lea.build();
        Check.equal("rank of the degree 2", lea.rank(4), 0);
        Check.equal("rank of the degree 1", lea.rank(2), 1);
        Check.equal("rank of the degree 0", lea.rank(0), 3);
    }

    /** All neighbours count, those above 31 too. */
    private static void degreesOfGreatNumbers() {
        LandmarkLea lea = Graphs.empty(48);
        lea.addEdge(0, 1);
        lea.addEdge(45, 46);
        lea.addEdge(46, 47);
        lea.build();
        int[] due = {46, 0, 1, 45, 47};
        for (int rank = 0; rank < due.length; rank++) {
            Check.equal("rank(" + due[rank] + ")", lea.rank(due[rank]), rank);
        }
    }

    // "those with the same degree by rising numbers"
    private static void ranksOfTheSameDegreeByRisingNumbers() {
        LandmarkLea lea = Graphs.empty(48);
        lea.build();
        for (int v = 0; v < 48; v++) {
            Check.equal("rank(" + v + ") of degree 0", lea.rank(v), v);
        }
        LandmarkLea pairs = Graphs.empty(5);
        pairs.addEdge(4, 1);
        pairs.addEdge(3, 2);
        pairs.build();
        int[] due = {4, 0, 1, 2, 3};
        for (int v = 0; v < 5; v++) {
            Check.equal("rank(" + v + ") of pairs", pairs.rank(v), due[v]);
        }
    }

    // "A vertex that is added later gets the next rank."
    private static void laterVertexGetsTheNextRank() {
        LandmarkLea lea = new LandmarkLea();
        lea.build();
        for (int v = 0; v < 48; v++) {
            lea.addVertex();
            Check.equal("rank of the later vertex " + v, lea.rank(v), v);
        }
        // Its rank stays the last one, though its degree grows.
        LandmarkLea path = Graphs.builtPath(3);
        path.addVertex();
        path.addEdge(3, 0);
        path.addEdge(3, 1);
        path.addEdge(3, 2);
        Check.equal("rank(3) with three edges", path.rank(3), 3);
        Check.equal("rank(1) with three edges too", path.rank(1), 0);
        path.build();
        Check.equal("rank(3) anew", path.rank(3), 1);
    }

    // "A label has at most one entry for a hub.", "in place of the one for h, if there is one"
    private static void atMostOneEntryForAHub() {
        LandmarkLea lea = Graphs.joinedPairs();
        Check.equal("label 3", Graphs.label(lea, 3), "0:3:2 1:2:2 2:1:2 3:0:-1");
        lea.addEdge(3, 0);
        Check.equal("label 3, nearer", Graphs.label(lea, 3), "0:1:0 1:2:2 2:1:2 3:0:-1");
        Check.equal("labelSize(3)", lea.labelSize(3), 4);
    }

    // "The entries of a label are ordered by rising ranks of their hubs." Not by their numbers, or distances.
    private static void entriesByRisingRanks() {
        LandmarkLea lea = Graphs.empty(4);
        lea.addEdge(3, 2);
        lea.addEdge(3, 1);
        lea.addEdge(3, 0);
        lea.addEdge(2, 0);
        lea.build();
        // The degrees are 2, 1, 2, 3.
        Check.equal("label 1", Graphs.label(lea, 1), "3:1:3 1:0:-1");
        Check.equal("label 2", Graphs.label(lea, 2), "3:1:3 0:1:0 2:0:-1");
        LandmarkLea grown = Graphs.empty(3);
        grown.addEdge(2, 1);
        grown.build();
        grown.addEdge(1, 0);
        // The ranks are 2, 0, 1: the hub 1 is put in first, and the greatest hub stands between.
        Check.equal("label 0", Graphs.label(grown, 0), "1:1:1 0:0:-1");
        grown.clear();
        grown.addEdge(2, 1);
        grown.build();
        grown.addEdge(2, 0);
        Check.equal("label 0 from 2", Graphs.label(grown, 0), "1:2:2 2:1:2 0:0:-1");
    }

    // "If the estimate .. is at most d, v is pruned." With d itself it is.
    private static void prunedIfTheEstimateIsAtMostTheDistance() {
        // From the hub 2 its neighbour 0 has the estimate 1, and the distance 1.
        LandmarkLea triangle = triangle();
        Check.equal("build() of a triangle", triangle.build(), 9);
        Check.equal("pruned of a triangle", triangle.pruned(), 3);
        Check.equal("label 0", Graphs.label(triangle, 0), "0:0:-1");
        // From the hub 0 the vertex 1 has the estimate 1, and the distance 1: 0 does not come to 2.
        LandmarkLea path = Graphs.builtPath(3);
        Check.equal("labels of the ends", Graphs.label(path, 0) + ", " + Graphs.label(path, 2),
                "1:1:1 0:0:-1, 1:1:1 2:0:-1");
    }

    private static LandmarkLea triangle() {
        LandmarkLea lea = Graphs.path(3);
        lea.addEdge(2, 0);
        return lea;
    }

    // "Otherwise the label of v gets the entry": with an estimate of d + 1 it is not pruned.
    private static void notPrunedIfTheEstimateIsMore() {
        // From the hub 1 the vertex 2 has the estimate 2 by way of 0, and the distance 1.
        LandmarkLea triangle = triangle();
        triangle.build();
        Check.equal("label 2", Graphs.label(triangle, 2), "0:1:0 1:1:1 2:0:-1");
        // The same of an entry that is there already: it is replaced by one that is nearer by 1.
        LandmarkLea path = Graphs.empty(3);
        path.build();
        path.addEdge(0, 1);
        path.addEdge(1, 2);
        Check.equal("label 2 of a path", Graphs.label(path, 2), "0:2:1 1:1:1 2:0:-1");
        path.addEdge(0, 2);
        Check.equal("label 2, nearer by 1", Graphs.label(path, 2), "0:1:0 1:1:1 2:0:-1");
        Check.equal("written", path.written(), 1);
    }

    // "each neighbour of v that has not been in the queue in this search"
    private static void notInTheQueueTwice() {
        // In the square both 1 and 3 have the neighbour 2, which the hub 0 visits once.
        LandmarkLea square = Graphs.path(4);
        square.addEdge(3, 0);
        // The hub 1 visits itself, 0 and 2, and 3 from 2; 2 itself, 1 and 3, and 0 from 3; 3 itself, 0 and 2.
        // None comes back to where it has been, be it pruned there or not.
        Check.equal("build() of the square", square.build(), 4 + 4 + 4 + 3);
        Check.equal("written of the square", square.written(), 4 + 2 + 2 + 1);
    }

    // "is put at its end, by rising numbers"
    private static void neighboursByRisingNumbers() {
        LandmarkLea lea = Graphs.empty(48);
        lea.addEdge(47, 46);
        lea.addEdge(47, 1);
        lea.addEdge(0, 46);
        lea.addEdge(0, 1);
        lea.build();
        // 47 is reached from 0 by way of 1 and of 46 alike, and 1 is in the queue first.
        Check.equal("entryHub(47, 0)", lea.entryHub(47, 0), 0);
        Check.equal("entryParent(47, 0)", lea.entryParent(47, 0), 1);
    }

    // "which starts at this vertex itself with the distance 0 and the parent NONE"
    private static void searchStartsAtTheVertexItself() {
        LandmarkLea lea = Graphs.builtPath(48);
        for (int v = 0; v < 48; v++) {
            int last = lea.labelSize(v) - 1;
            Check.equal("the last hub of " + v, lea.entryHub(v, last), v);
            Check.equal("its distance", lea.entryDistance(v, last), 0);
            Check.equal("its parent", lea.entryParent(v, last), NONE);
        }
    }

    // "Then, until the queue is empty"
    private static void searchGoesOnUntilTheQueueIsEmpty() {
        // The hub k of the first 46 reaches 48 - k vertices, but the first one also 0, and the others only look
        // back at the vertex before them; then 0 reaches itself and 1, and 47 itself and 46.
        LandmarkLea lea = Graphs.path(48);
        Check.equal("build() of the longest path", lea.build(), 48 + 45 + (46 + 2) * 45 / 2 + 2 + 2);
        Check.equal("pruned of the longest path", lea.pruned(), 45 + 2);
        Check.equal("entryHub(47, 0)", lea.entryHub(47, 0), 1);
        Check.equal("entryDistance(47, 0)", lea.entryDistance(47, 0), 46);
    }

    // "if the label of a has an entry for it, with the distance d, a search for this hub starts at b .. d + 1"
    private static void hubsOfTheFirstVertexAlone() {
        LandmarkLea lea = Graphs.builtPath(2);
        lea.addVertex();
        Check.equal("addEdge(1, 2)", lea.addEdge(1, 2), 2 + 2 + 1);
        Check.equal("label 2", Graphs.label(lea, 2), "0:2:1 1:1:1 2:0:-1");
        Check.equal("label 1", Graphs.label(lea, 1), "0:1:0 1:0:-1");
    }

    // "then, if the label of b had an entry for it .., with the distance e, a search .. starts at a .. e + 1"
    private static void hubsOfTheSecondVertexAlone() {
        LandmarkLea lea = Graphs.builtPath(2);
        lea.addVertex();
        Check.equal("addEdge(2, 1)", lea.addEdge(2, 1), 2 + 2 + 1);
        Check.equal("label 2", Graphs.label(lea, 2), "0:2:1 1:1:1 2:0:-1");
        Check.equal("label 1", Graphs.label(lea, 1), "0:1:0 1:0:-1");
    }

    // "for each hub that has an entry in the label of a or of b"
    private static void hubsOfBothVertices() {
        LandmarkLea lea = Graphs.builtPath(3);
        // Both 0 and 2 have an entry for the hub 1, so two searches for it are pruned at once, one at each.
        // The hub 0 is put into the label of 2, and looks back at 0 and at 1; the hub 2 is pruned at 0.
        Check.equal("addEdge(0, 2)", lea.addEdge(0, 2), 2 + 3 + 1);
        Check.equal("pruned", lea.pruned(), 2 + 2 + 1);
        Check.equal("written", lea.written(), 1);
        Check.equal("label 2", Graphs.label(lea, 2), "1:1:1 0:1:0 2:0:-1");
        Check.equal("label 0", Graphs.label(lea, 0), "1:1:1 0:0:-1");
    }

    // ".. by rising ranks": by falling ones the labels would get entries that are pruned so
    private static void hubsByRisingRanks() {
        LandmarkLea lea = Graphs.empty(2);
        lea.build();
        lea.addEdge(1, 0);
        Check.equal("label 0", Graphs.label(lea, 0), "0:0:-1");
        Check.equal("label 1", Graphs.label(lea, 1), "0:1:0 1:0:-1");
    }

    // "had an entry for it before the edge was added", "The hubs are those before the edge was added."
    private static void onlyEntriesFromBeforeTheEdge() {
        LandmarkLea lea = Graphs.empty(2);
        lea.build();
        // The entry for the hub 0 that 1 gets by this edge starts no search back at 0.
        Check.equal("addEdge(0, 1)", lea.addEdge(0, 1), 3);
        Check.equal("pruned", lea.pruned(), 2);
    }

    // "A vertex that is added behind the building gets a label with one entry"
    private static void laterVertexGetsOneEntry() {
        LandmarkLea lea = Graphs.builtPath(3);
        lea.addVertices(44);
        Check.equal("addVertex()", lea.addVertex(), 47);
        int[] later = {3, 46, 47};
        for (int v : later) {
            Check.equal("labelSize(" + v + ")", lea.labelSize(v), 1);
            Check.equal("label " + v, Graphs.label(lea, v), v + ":0:-1");
        }
    }

    // Promise 9: "Returns the number of visits of all searches."
    private static void buildOfNothingAndOfOne() {
        LandmarkLea nothing = new LandmarkLea();
        Check.equal("build() of nothing", nothing.build(), 0);
        Check.equal("isBuilt", nothing.isBuilt(), true);
        Check.equal("entries", nothing.entries(), 0);
        LandmarkLea one = Graphs.empty(1);
        Check.equal("build() of one", one.build(), 1);
        Check.equal("label of one", Graphs.label(one, 0), "0:0:-1");
    }

    // Promise 9: "Builds the labels, whether they are built or not."
    private static void buildWhetherBuiltOrNot() {
        LandmarkLea lea = Graphs.path(4);
        int visits = lea.build();
        String built = Graphs.state(lea);
        Check.equal("build() again", lea.build(), visits);
        Check.equal("state again", Graphs.state(lea), built);
        // What an extension left behind is gone when they are built anew.
        LandmarkLea joined = Graphs.joinedPairs();
        Check.equal("build() of joined pairs", joined.build(), visits);
        Check.equal("state of joined pairs", Graphs.state(joined), built);
        joined.clear();
        Check.equal("build() cleared", joined.build(), 4);
        Check.equal("entries cleared", joined.entries(), 4);
    }

    // Promise 10: "Tells whether the labels are built."
    private static void isBuiltOnlyBehindBuild() {
        LandmarkLea lea = Graphs.path(2);
        lea.entriesIfBuilt();
        Check.equal("isBuilt behind entriesIfBuilt()", lea.isBuilt(), false);
        lea.build();
        Check.equal("isBuilt behind build()", lea.isBuilt(), true);
        lea.entriesIfBuilt();
        lea.addVertices(46);
        Check.equal("isBuilt, full", lea.isBuilt(), true);
        lea.clear();
        Check.equal("isBuilt behind clear()", lea.isBuilt(), false);
    }

    // Promise 11: "Throws IndexOutOfBoundsException if there is no such vertex"
    private static void rankNoSuchVertex() {
        LandmarkLea few = Graphs.builtPath(3);
        LandmarkLea full = Graphs.builtPath(48);
        Check.throwsNoVertex("rank(3) of 3", () -> few.rank(3));
        for (int v : WRONG_NUMBERS) {
            Check.throwsNoVertex("rank(" + v + ") of 3", () -> few.rank(v));
            Check.throwsNoVertex("rank(" + v + ") of 48", () -> full.rank(v));
        }
    }

    // Promise 11: "Throws IllegalStateException if the labels are not built"
    private static void rankNotBuilt() {
        LandmarkLea lea = Graphs.path(3);
        Check.throwsState("rank(0)", () -> lea.rank(0));
        lea.build();
        lea.clear();
        Check.throwsState("rank(2) cleared", () -> lea.rank(2));
    }

    // Promise 12: "0 if they are not built"
    private static void entriesAre0IfNotBuilt() {
        LandmarkLea lea = Graphs.path(48);
        Check.equal("entries", lea.entries(), 0);
        lea.entriesIfBuilt();
        Check.equal("entries behind entriesIfBuilt()", lea.entries(), 0);
        lea.build();
        lea.clear();
        Check.equal("entries cleared", lea.entries(), 0);
    }

    // Promise 12: "Returns the number of entries of all labels": each vertex has all that come before it as hubs
    private static void entriesOfTheFullestLabels() {
        LandmarkLea lea = Graphs.grownPath();
        Check.equal("entries", lea.entries(), 49 * 48 / 2);
        Check.equal("entries of one", builtAlone().entries(), 1);
    }

    private static LandmarkLea builtAlone() {
        LandmarkLea lea = Graphs.empty(1);
        lea.build();
        return lea;
    }

    // Promise 13: "how many entries all labels would have if they were built now"
    private static void entriesIfBuiltNow() {
        Check.equal("entriesIfBuilt of nothing", new LandmarkLea().entriesIfBuilt(), 0);
        Check.equal("entriesIfBuilt of one", Graphs.empty(1).entriesIfBuilt(), 1);
        LandmarkLea lea = Graphs.grownPath();
        // The hub 1 reaches all, each of 2 to 46 those from itself on; 0 and 47 only themselves.
        Check.equal("entriesIfBuilt", lea.entriesIfBuilt(), 48 + (46 + 2) * 45 / 2 + 2);
        lea.clear();
        Check.equal("entriesIfBuilt cleared", lea.entriesIfBuilt(), 48);
    }

    private static void entriesIfBuiltChangesNothing() {
        LandmarkLea lea = Graphs.joinedPairs();
        LandmarkLea unbuilt = Graphs.path(4);
        String before = Graphs.state(lea);
        String beforeUnbuilt = Graphs.state(unbuilt);
        Check.equal("entriesIfBuilt of joined pairs", lea.entriesIfBuilt(), 8);
        Check.equal("entriesIfBuilt of a path", unbuilt.entriesIfBuilt(), 8);
        Check.equal("state of joined pairs", Graphs.state(lea), before);
        Check.equal("state of a path", Graphs.state(unbuilt), beforeUnbuilt);
        Check.equal("visits of the next edge", lea.addEdge(0, 3), 7);
    }

    // Promise 14: "Returns the number of entries of a label."
    private static void labelSizeFrom1To48() {
        LandmarkLea lea = Graphs.grownPath();
        for (int v = 0; v < 48; v++) {
            Check.equal("labelSize(" + v + ")", lea.labelSize(v), v + 1);
        }
    }

    // Promise 14: "Throws IndexOutOfBoundsException if there is no such vertex"
    private static void labelSizeNoSuchVertex() {
        LandmarkLea few = Graphs.builtPath(3);
        LandmarkLea full = Graphs.builtPath(48);
        Check.throwsNoVertex("labelSize(3) of 3", () -> few.labelSize(3));
        for (int v : WRONG_NUMBERS) {
            Check.throwsNoVertex("labelSize(" + v + ") of 3", () -> few.labelSize(v));
            Check.throwsNoVertex("labelSize(" + v + ") of 48", () -> full.labelSize(v));
        }
    }

    // Promise 14: "Throws IllegalStateException if the labels are not built"
    private static void labelSizeNotBuilt() {
        LandmarkLea lea = Graphs.path(3);
        Check.throwsState("labelSize(0)", () -> lea.labelSize(0));
        lea.build();
        lea.clear();
        Check.throwsState("labelSize(2) cleared", () -> lea.labelSize(2));
    }

    // Promises 15 to 17: "entry: 0 for the first one"
    private static void entryIs0ForTheFirstOne() {
        LandmarkLea lea = Graphs.grownPath();
        Check.equal("entryHub(47, 0)", lea.entryHub(47, 0), 0);
        Check.equal("entryDistance(47, 0)", lea.entryDistance(47, 0), 47);
        Check.equal("entryParent(47, 0)", lea.entryParent(47, 0), 46);
        Check.equal("entryHub(0, 0)", lea.entryHub(0, 0), 0);
        Check.equal("entryDistance(0, 0)", lea.entryDistance(0, 0), 0);
        Check.equal("entryParent(0, 0)", lea.entryParent(0, 0), NONE);
    }

    // Promise 15: "Returns the hub of an entry of a label."
    private static void entryHubOfTheLastOne() {
        LandmarkLea lea = Graphs.grownPath();
        Check.equal("entryHub(47, 46)", lea.entryHub(47, 46), 46);
        Check.equal("entryHub(47, 47)", lea.entryHub(47, 47), 47);
        Check.equal("entryHub(46, 46)", lea.entryHub(46, 46), 46);
    }

    // Promise 16: "Returns the distance of an entry of a label."
    private static void entryDistanceOfTheLastOne() {
        LandmarkLea lea = Graphs.grownPath();
        Check.equal("entryDistance(47, 46)", lea.entryDistance(47, 46), 1);
        Check.equal("entryDistance(47, 47)", lea.entryDistance(47, 47), 0);
        Check.equal("entryDistance(46, 1)", lea.entryDistance(46, 1), 45);
    }

    // Promise 17: "NONE if it has none"
    private static void entryParentIsNoneIfItHasNone() {
        LandmarkLea lea = Graphs.grownPath();
        for (int v = 0; v < 48; v++) {
            Check.equal("entryParent(" + v + ", " + v + ")", lea.entryParent(v, v), NONE);
            if (v > 0) {
                // The vertex 0 is a parent as well as another: NONE is not 0.
                Check.equal("entryParent(" + v + ", 0)", lea.entryParent(v, 0), v - 1);
            }
        }
    }

    // Promise 15: "Throws IndexOutOfBoundsException if there is no such vertex"
    private static void entryHubNoSuchVertex() {
        LandmarkLea few = Graphs.builtPath(3);
        LandmarkLea full = Graphs.builtPath(48);
        Check.throwsNoVertex("entryHub(3, 0) of 3", () -> few.entryHub(3, 0));
        for (int v : WRONG_NUMBERS) {
            Check.throwsNoVertex("entryHub(" + v + ", 0) of 48", () -> full.entryHub(v, 0));
        }
    }

    // Promise 16, the same
    private static void entryDistanceNoSuchVertex() {
        LandmarkLea few = Graphs.builtPath(3);
        LandmarkLea full = Graphs.builtPath(48);
        Check.throwsNoVertex("entryDistance(3, 0) of 3", () -> few.entryDistance(3, 0));
        for (int v : WRONG_NUMBERS) {
            Check.throwsNoVertex("entryDistance(" + v + ", 0) of 48", () -> full.entryDistance(v, 0));
        }
    }

    // Promise 17, the same
    private static void entryParentNoSuchVertex() {
        LandmarkLea few = Graphs.builtPath(3);
        LandmarkLea full = Graphs.builtPath(48);
        Check.throwsNoVertex("entryParent(3, 0) of 3", () -> few.entryParent(3, 0));
        for (int v : WRONG_NUMBERS) {
            Check.throwsNoVertex("entryParent(" + v + ", 0) of 48", () -> full.entryParent(v, 0));
        }
    }

    // Promise 15: "Throws IllegalStateException if the labels are not built"
    private static void entryHubNotBuilt() {
        LandmarkLea lea = Graphs.path(3);
        Check.throwsState("entryHub(0, 0)", () -> lea.entryHub(0, 0));
        lea.build();
        lea.clear();
        Check.throwsState("entryHub(0, 0) cleared", () -> lea.entryHub(0, 0));
    }

    // Promise 16, the same
    private static void entryDistanceNotBuilt() {
        LandmarkLea lea = Graphs.path(3);
        Check.throwsState("entryDistance(0, 0)", () -> lea.entryDistance(0, 0));
        lea.build();
        lea.clear();
        Check.throwsState("entryDistance(0, 0) cleared", () -> lea.entryDistance(0, 0));
    }

    // Promise 17, the same
    private static void entryParentNotBuilt() {
        LandmarkLea lea = Graphs.path(3);
        Check.throwsState("entryParent(0, 0)", () -> lea.entryParent(0, 0));
        lea.build();
        lea.clear();
        Check.throwsState("entryParent(0, 0) cleared", () -> lea.entryParent(0, 0));
    }

    // Promise 15: "Throws IllegalArgumentException if the label has no such entry"
    private static void entryHubNoSuchEntry() {
        LandmarkLea few = Graphs.builtPath(3);
        LandmarkLea full = Graphs.grownPath();
        Check.throwsArgument("entryHub(1, 1) of one entry", () -> few.entryHub(1, 1));
        Check.throwsArgument("entryHub(0, 2) of two entries", () -> few.entryHub(0, 2));
        for (int entry : WRONG_NUMBERS) {
            Check.throwsArgument("entryHub(1, " + entry + ")", () -> few.entryHub(1, entry));
            Check.throwsArgument("entryHub(47, " + entry + ")", () -> full.entryHub(47, entry));
        }
    }

    // Promise 16, the same
    private static void entryDistanceNoSuchEntry() {
        LandmarkLea few = Graphs.builtPath(3);
        LandmarkLea full = Graphs.grownPath();
        Check.throwsArgument("entryDistance(1, 1) of one entry", () -> few.entryDistance(1, 1));
        Check.throwsArgument("entryDistance(0, 2) of two entries", () -> few.entryDistance(0, 2));
        for (int entry : WRONG_NUMBERS) {
            Check.throwsArgument("entryDistance(1, " + entry + ")", () -> few.entryDistance(1, entry));
            Check.throwsArgument("entryDistance(47, " + entry + ")", () -> full.entryDistance(47, entry));
        }
    }

    // Promise 17, the same
    private static void entryParentNoSuchEntry() {
        LandmarkLea few = Graphs.builtPath(3);
        LandmarkLea full = Graphs.grownPath();
        Check.throwsArgument("entryParent(1, 1) of one entry", () -> few.entryParent(1, 1));
        Check.throwsArgument("entryParent(0, 2) of two entries", () -> few.entryParent(0, 2));
        for (int entry : WRONG_NUMBERS) {
            Check.throwsArgument("entryParent(1, " + entry + ")", () -> few.entryParent(1, entry));
            Check.throwsArgument("entryParent(47, " + entry + ")", () -> full.entryParent(47, entry));
        }
    }

    // Promise 23: "0 if there was none since the object was made", promise 24: "0 if there was none"
    private static void countsAre0IfThereWasNoCall() {
        LandmarkLea lea = new LandmarkLea();
        counts("new", lea, 0, 0);
        lea.addVertices(3);
        lea.addEdge(0, 1);
        lea.addEdge(1, 2);
        counts("with edges", lea, 0, 0);
        lea.entriesIfBuilt();
        counts("behind entriesIfBuilt()", lea, 0, 0);
    }

    // Promise 23: ".. or cleared"
    private static void countsAre0Cleared() {
        LandmarkLea lea = Graphs.builtPath(3);
        counts("built", lea, 2, 5);
        lea.clear();
        counts("cleared", lea, 0, 0);
        lea.addEdge(0, 1);
        lea.addEdge(1, 2);
        counts("cleared, with edges", lea, 0, 0);
        lea.build();
        counts("built anew", lea, 2, 5);
    }

    private static void countsStayUntilTheNextCall() {
        LandmarkLea lea = Graphs.builtPath(3);
        lea.addVertex();
        lea.addVertices(2);
        lea.entriesIfBuilt();
        lea.distance(0, 5);
        lea.pathVertex(0, 2, 1);
        Check.throwsState("addEdge(0, 1) again", () -> lea.addEdge(0, 1));
        Check.throwsNoVertex("addEdge(0, 6)", () -> lea.addEdge(0, 6));
        counts("behind other calls", lea, 2, 5);
    }

    // Promise 23: "of the last call of build(), or of addEdge() that extended the labels, whichever was later"
    private static void countsOfTheLaterCall() {
        LandmarkLea lea = Graphs.builtPath(3);
        lea.addEdge(0, 2);
        counts("extended", lea, 5, 1);
        lea.build();
        counts("built anew", lea, 3, 6);
        lea.addVertex();
        lea.addEdge(0, 3);
        counts("extended anew", lea, 2, 1);
    }

    private static void countsOfNothing() {
        LandmarkLea lea = Graphs.joinedPairs();
        counts("joined pairs", lea, 3, 4);
        LandmarkLea nothing = new LandmarkLea();
        nothing.build();
        counts("nothing", nothing, 0, 0);
        LandmarkLea alone = builtAlone();
        counts("one alone", alone, 0, 1);
    }

    // Promise 24: "how many entries were put into labels, or replaced"
    private static void writtenCountsPutAndReplaced() {
        LandmarkLea lea = Graphs.empty(48);
        lea.build();
        Check.equal("written of 48 apart", lea.written(), 48);
        Check.equal("written of the last edge of a path", Graphs.grownPath().written(), 47);
        LandmarkLea joined = Graphs.joinedPairs();
        Check.equal("written, put", joined.written(), 4);
        joined.addEdge(0, 3);
        Check.equal("written, replaced", joined.written(), 1);
        Check.equal("entries", joined.entries(), 10);
    }

    // Promise 23: "the number of vertices that were pruned in all searches"
    private static void prunedCountsAllSearches() {
        LandmarkLea lea = Graphs.empty(48);
        lea.build();
        Check.equal("pruned of 48 apart", lea.pruned(), 0);
        // Each of the 47 hubs of 46 is pruned back at 46, and the hub 47 at 46 too.
        Check.equal("pruned of the last edge of a path", Graphs.grownPath().pruned(), 48);
    }

    private static void counts(String what, LandmarkLea lea, int pruned, int written) {
        Check.equal("pruned, " + what, lea.pruned(), pruned);
        Check.equal("written, " + what, lea.written(), written);
    }
}
