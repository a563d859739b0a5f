/**
 * A distance oracle for an undirected graph: pruned landmark labels (2-hop labels), which are
 * extended by resumed searches when edges are added.
 */
public final class LandmarkLea {
    /** There is none. */
    public static final int NONE = -1;

    private static final int MOST_VERTICES = 48;
    private static final int GREATEST_RADIUS = 47;

    private final Graph graph;
    private final Labels labels;
    private final Searches searches;
    // A building on trial has labels of its own, made once, so that it leaves the real ones alone.
    private final Labels trialLabels;
    private final Searches trialSearches;
    private boolean labelled;

    /** Makes an object without vertices, whose labels are not built. */
    public LandmarkLea() {
        graph = new Graph();
        labels = new Labels();
        searches = new Searches(graph, labels);
        trialLabels = new Labels();
        trialSearches = new Searches(graph, trialLabels);
        labelled = false;
    }

    // ---- the graph

    /** Adds a vertex without edges, and returns its number. */
    public int addVertex() throws IllegalStateException {
        requireRoomFor(1);
        return appendVertex();
    }

    /** Adds count vertices, and returns how many there are then. */
    public int addVertices(int count) throws IllegalArgumentException, IllegalStateException {
        if (count < 1 || count > MOST_VERTICES) {
            throw new IllegalArgumentException("count is not from 1 to 48");
        }
        requireRoomFor(count);
        for (int added = 0; added < count; added++) {
            appendVertex();
        }
        return graph.size();
    }

    /** Adds an edge, and returns the number of visits by which built labels are extended. */
    public int addEdge(int a, int b) throws IndexOutOfBoundsException, IllegalStateException {
        requireVertex(a);
        requireVertex(b);
        if (a == b || graph.joins(a, b)) {
            throw new IllegalStateException("the same vertex, or an edge that is there");
        }
        graph.join(a, b);
        return labelled ? searches.extend(a, b) : 0;
    }

    /** Removes all edges and forgets the labels, and returns how many edges there were. */
    public int clear() {
        int removed = graph.countOfEdges();
        graph.cutAll();
        labels.forget();
        searches.forgetCounts();
        labelled = false;
        return removed;
    }

    /** Returns the number of vertices. */
    public int vertices() {
        return graph.size();
    }

    /** Returns the number of edges. */
    public int edges() {
        return graph.countOfEdges();
    }

    /** Returns the neighbours of a vertex. */
    public long neighbours(int vertex) throws IndexOutOfBoundsException {
        requireVertex(vertex);
        return graph.adjacent(vertex);
    }

    // ---- labels

    /** Builds the labels, and returns the number of visits of all searches. */
    public int build() {
        labelled = true;
        return searches.labelAll();
    }

    /** Tells whether the labels are built. */
    public boolean isBuilt() {
        return labelled;
    }

    /** Returns the rank of a vertex. */
    public int rank(int vertex) throws IndexOutOfBoundsException, IllegalStateException {
        requireLabelOf(vertex);
        return labels.rankOf(vertex);
    }

    /** Returns the number of entries of all labels; 0 if they are not built. */
    public int entries() {
        return labelled ? labels.countAll() : 0;
    }

    /** Returns how many entries all labels would have if they were built now. */
    public int entriesIfBuilt() {
        trialSearches.labelAll();
        return trialLabels.countAll();
    }

    /** Returns the number of entries of a label. */
    public int labelSize(int vertex) throws IndexOutOfBoundsException, IllegalStateException {
        requireLabelOf(vertex);
        return labels.countOf(vertex);
    }

    /** Returns the hub of an entry of a label. */
    public int entryHub(int vertex, int entry)
            throws IndexOutOfBoundsException, IllegalStateException, IllegalArgumentException {
        requireLabelOf(vertex);
        requireEntry(vertex, entry);
        return labels.vertexOf(labels.hubRankOfEntry(vertex, entry));
    }

    /** Returns the distance of an entry of a label. */
    public int entryDistance(int vertex, int entry)
            throws IndexOutOfBoundsException, IllegalStateException, IllegalArgumentException {
        requireLabelOf(vertex);
        requireEntry(vertex, entry);
        return labels.distanceTo(labels.hubRankOfEntry(vertex, entry), vertex);
    }

    /** Returns the parent of an entry of a label; NONE if it has none. */
    public int entryParent(int vertex, int entry)
            throws IndexOutOfBoundsException, IllegalStateException, IllegalArgumentException {
        requireLabelOf(vertex);
        requireEntry(vertex, entry);
        return labels.parentTowards(labels.hubRankOfEntry(vertex, entry), vertex);
    }

    // ---- distances and paths

    /** Returns the estimate of two vertices; NONE if it is infinite. */
    public int distance(int u, int v) throws IndexOutOfBoundsException, IllegalStateException {
        requireLabelsOf(u, v);
        return labels.estimate(u, v);
    }

    /** Returns the hub of two vertices; NONE if their estimate is infinite. */
    public int hub(int u, int v) throws IndexOutOfBoundsException, IllegalStateException {
        requireLabelsOf(u, v);
        return labels.vertexOf(labels.meetingRank(u, v));
    }

    /** Returns a vertex of the path of two vertices; NONE if there is no such vertex. */
    public int pathVertex(int u, int v, int place)
            throws IndexOutOfBoundsException, IllegalStateException, IllegalArgumentException {
        requireLabelsOf(u, v);
        if (place < 0) {
            throw new IllegalArgumentException("place is below 0");
        }
        return labels.vertexOnPath(u, v, place);
    }

    /** Returns the vertices whose estimate with a vertex is finite and at most a radius. */
    public long within(int vertex, int radius)
            throws IndexOutOfBoundsException, IllegalStateException, IllegalArgumentException {
        requireLabelOf(vertex);
        if (radius < 0 || radius > GREATEST_RADIUS) {
            throw new IllegalArgumentException("radius is not from 0 to 47");
        }
        long near = 0L;
        for (int other = 0; other < graph.size(); other++) {
            int estimate = labels.estimate(vertex, other);
            if (estimate != NONE && estimate <= radius) {
                near |= 1L << other;
            }
        }
        return near;
    }

    /** Returns the greatest finite estimate of a vertex with any vertex. */
    public int eccentricity(int vertex) throws IndexOutOfBoundsException, IllegalStateException {
        requireLabelOf(vertex);
        int greatest = 0;
        for (int other = 0; other < graph.size(); other++) {
            // NONE is below 0, so an infinite estimate never counts.
            greatest = Math.max(greatest, labels.estimate(vertex, other));
        }
        return greatest;
    }

    // ---- the last building or extension

    /** Returns the number of vertices pruned by the last building or extension. */
    public int pruned() {
        return searches.countOfPruned();
    }

    /** Returns how many entries the last building or extension put into labels, or replaced. */
    public int written() {
        return searches.countOfWritten();
    }

    // ---- what the calls share

    private int appendVertex() {
        int vertex = graph.grow();
        if (labelled) {
            labels.rankNext(vertex);
            labels.put(labels.rankOf(vertex), vertex, 0, NONE);
        }
        return vertex;
    }

    private void requireRoomFor(int count) {
        if (count > MOST_VERTICES - graph.size()) {
            throw new IllegalStateException("more than 48 vertices");
        }
    }

    private void requireVertex(int vertex) {
        if (!graph.has(vertex)) {
            throw new IndexOutOfBoundsException("no such vertex");
        }
    }

    private void requireLabelOf(int vertex) {
        requireLabelsOf(vertex, vertex);
    }

    private void requireLabelsOf(int u, int v) {
        requireVertex(u);
        requireVertex(v);
        if (!labelled) {
            throw new IllegalStateException("the labels are not built");
        }
    }

    private void requireEntry(int vertex, int entry) {
        if (entry < 0 || entry >= labels.countOf(vertex)) {
            throw new IllegalArgumentException("the label has no such entry");
        }
    }

    /** Tells whether an index, of a vertex or of a rank, is one of the rows below. */
    private static boolean isRow(int index) {
        return index >= 0 && index < MOST_VERTICES;
    }

    private static boolean hasBit(long set, int row) {
        return (set >>> row & 1L) != 0L;
    }

    /** The vertices and edges. */
    private static final class Graph {
        private final long[] neighbourSets;
        private int vertexCount;
        private int edgeCount;

        Graph() {
            neighbourSets = new long[MOST_VERTICES];
            vertexCount = 0;
            edgeCount = 0;
        }

        int size() {
            return vertexCount;
        }

        int countOfEdges() {
            return edgeCount;
        }

        boolean has(int vertex) {
            return vertex >= 0 && vertex < vertexCount;
        }

        long adjacent(int vertex) {
            return isRow(vertex) ? neighbourSets[vertex] : 0L;
        }

        boolean joins(int a, int b) {
            return isRow(b) && hasBit(adjacent(a), b);
        }

        int degree(int vertex) {
            return Long.bitCount(adjacent(vertex));
        }

        /** Adds a vertex, and returns its number; NONE if there is no room. */
        int grow() {
            if (vertexCount >= MOST_VERTICES) {
                return NONE;
            }
            int vertex = vertexCount;
            vertexCount++;
            return vertex;
        }

        void join(int a, int b) {
            if (isRow(a) && isRow(b)) {
                neighbourSets[a] |= 1L << b;
                neighbourSets[b] |= 1L << a;
                edgeCount++;
            }
        }

        void cutAll() {
            for (int vertex = 0; vertex < neighbourSets.length; vertex++) {
                neighbourSets[vertex] = 0L;
            }
            edgeCount = 0;
        }
    }

    /**
     * The ranks and the labels. A hub is told here by its rank: ranks stay until the labels are
     * built anew, and rising ranks are the order of a label.
     */
    private static final class Labels {
        private final int[] ranks;
        private final int[] verticesByRank;
        private int rankedCount;
        // Of each vertex the ranks of the hubs for which its label has an entry, as a bit mask.
        private final long[] hubSets;
        // Of each vertex MOST_VERTICES places in a row, one for each rank of a hub.
        private final int[] distances;
        private final int[] parents;

        Labels() {
            ranks = new int[MOST_VERTICES];
            verticesByRank = new int[MOST_VERTICES];
            rankedCount = 0;
            hubSets = new long[MOST_VERTICES];
            distances = new int[MOST_VERTICES * MOST_VERTICES];
            parents = new int[MOST_VERTICES * MOST_VERTICES];
        }

        void forget() {
            rankedCount = 0;
            for (int vertex = 0; vertex < hubSets.length; vertex++) {
                hubSets[vertex] = 0L;
            }
        }

        /** Gives ranks to the vertices of a graph, by falling degrees. */
        void rankAll(Graph graph) {
            for (int degree = MOST_VERTICES - 1; degree >= 0; degree--) {
                for (int vertex = 0; vertex < graph.size(); vertex++) {
                    if (graph.degree(vertex) == degree) {
                        rankNext(vertex);
                    }
                }
            }
        }

        void rankNext(int vertex) {
            if (isRow(vertex) && isRow(rankedCount)) {
                ranks[vertex] = rankedCount;
                verticesByRank[rankedCount] = vertex;
                rankedCount++;
            }
        }

        int rankOf(int vertex) {
            return isRow(vertex) ? ranks[vertex] : NONE;
        }

        int vertexOf(int rank) {
            return isRow(rank) ? verticesByRank[rank] : NONE;
        }

        /** Puts an entry into the label of a vertex, in place of the one for the hub. */
        void put(int hubRank, int vertex, int distance, int parent) {
            if (isRow(hubRank) && isRow(vertex)) {
                hubSets[vertex] |= 1L << hubRank;
                distances[vertex * MOST_VERTICES + hubRank] = distance;
                parents[vertex * MOST_VERTICES + hubRank] = parent;
            }
        }

        private boolean hasEntry(int hubRank, int vertex) {
            return isRow(vertex) && isRow(hubRank) && hasBit(hubSets[vertex], hubRank);
        }

        /** Returns the distance of the entry of a vertex for a hub; NONE if there is no entry. */
        int distanceTo(int hubRank, int vertex) {
            if (!hasEntry(hubRank, vertex)) {
                return NONE;
            }
            return distances[vertex * MOST_VERTICES + hubRank];
        }

        /** Returns the parent of the entry of a vertex for a hub; NONE if there is no entry. */
        int parentTowards(int hubRank, int vertex) {
            if (!hasEntry(hubRank, vertex)) {
                return NONE;
            }
            return parents[vertex * MOST_VERTICES + hubRank];
        }

        int countOf(int vertex) {
            return isRow(vertex) ? Long.bitCount(hubSets[vertex]) : 0;
        }

        int countAll() {
            int count = 0;
            for (int vertex = 0; vertex < MOST_VERTICES; vertex++) {
                count += countOf(vertex);
            }
            return count;
        }

        /** Returns the rank of the hub of an entry, 0 for the first one; NONE if there is none. */
        int hubRankOfEntry(int vertex, int entry) {
            if (!isRow(vertex)) {
                return NONE;
            }
            int passed = 0;
            for (int rank = 0; rank < MOST_VERTICES; rank++) {
                if (hasBit(hubSets[vertex], rank)) {
                    if (passed == entry) {
                        return rank;
                    }
                    passed++;
                }
            }
            return NONE;
        }

        /** Tells if the estimate of a hub and a vertex up to the hub's rank is at most a limit. */
        boolean reaches(int hubRank, int vertex, int limit) {
            int hub = vertexOf(hubRank);
            long common = commonHubs(hub, vertex);
            for (int rank = 0; rank <= hubRank && rank < MOST_VERTICES; rank++) {
                if (hasBit(common, rank) && sumThrough(rank, hub, vertex) <= limit) {
                    return true;
                }
            }
            return false;
        }

        /** Returns the least rank of the hubs that reach the estimate; NONE if it is infinite. */
        int meetingRank(int u, int v) {
            long common = commonHubs(u, v);
            int best = NONE;
            for (int rank = 0; rank < MOST_VERTICES; rank++) {
                if (hasBit(common, rank)
                        && (best == NONE || sumThrough(rank, u, v) < sumThrough(best, u, v))) {
                    best = rank;
                }
            }
            return best;
        }

        private long commonHubs(int u, int v) {
            return isRow(u) && isRow(v) ? hubSets[u] & hubSets[v] : 0L;
        }

        private int sumThrough(int hubRank, int u, int v) {
            if (!isRow(hubRank) || !isRow(u) || !isRow(v)) {
                return NONE;
            }
            return distances[u * MOST_VERTICES + hubRank] + distances[v * MOST_VERTICES + hubRank];
        }

        /** Returns the estimate of two vertices; NONE if it is infinite. */
        int estimate(int u, int v) {
            int rank = meetingRank(u, v);
            return rank == NONE ? NONE : sumThrough(rank, u, v);
        }

        /** Returns the vertex at a place of the path of two vertices; NONE if there is none. */
        int vertexOnPath(int u, int v, int place) {
            int rank = meetingRank(u, v);
            if (rank == NONE) {
                return NONE;
            }
            int up = stepsTo(rank, u);
            int down = stepsTo(rank, v);
            if (place > up + down) {
                return NONE;
            }
            return place <= up ? climb(rank, u, place) : climb(rank, v, up + down - place);
        }

        /**
         * Returns how many parents lead from a vertex to a hub. They are counted one by one: an
         * entry's parent may have come nearer to the hub since the entry was written.
         */
        private int stepsTo(int hubRank, int vertex) {
            int hub = vertexOf(hubRank);
            int steps = 0;
            for (int at = vertex; at != hub && steps < MOST_VERTICES; steps++) {
                at = parentTowards(hubRank, at);
            }
            return steps;
        }

        private int climb(int hubRank, int vertex, int steps) {
            int at = vertex;
            for (int step = 0; step < steps && step < MOST_VERTICES; step++) {
                at = parentTowards(hubRank, at);
            }
            return at;
        }
    }

    /** The searches that write the labels of a graph, and what they count. */
    private static final class Searches {
        private final Graph graph;
        private final Labels labels;
        private final int[] queueVertices;
        private final int[] queueDistances;
        private final int[] queueParents;
        private int queueLength;
        private long queuedSet;
        private int visitCount;
        private int prunedCount;
        private int writtenCount;

        Searches(Graph graph, Labels labels) {
            this.graph = graph;
            this.labels = labels;
            queueVertices = new int[MOST_VERTICES];
            queueDistances = new int[MOST_VERTICES];
            queueParents = new int[MOST_VERTICES];
            queueLength = 0;
            queuedSet = 0L;
            visitCount = 0;
            prunedCount = 0;
            writtenCount = 0;
        }

        void forgetCounts() {
            visitCount = 0;
            prunedCount = 0;
            writtenCount = 0;
        }

        int countOfPruned() {
            return prunedCount;
        }

        int countOfWritten() {
            return writtenCount;
        }

        /** Builds all labels anew, and returns the number of visits. */
        int labelAll() {
            forgetCounts();
            labels.forget();
            labels.rankAll(graph);
            for (int rank = 0; rank < graph.size(); rank++) {
                search(rank, labels.vertexOf(rank), 0, NONE);
            }
            return visitCount;
        }

        /** Extends the labels by a new edge, and returns the number of visits. */
        int extend(int a, int b) {
            forgetCounts();
            for (int rank = 0; rank < graph.size(); rank++) {
                // A search writes entries for its own hub alone, so both distances, taken ahead of
                // this hub's searches, are still those from before the edge was added.
                int fromA = labels.distanceTo(rank, a);
                int fromB = labels.distanceTo(rank, b);
                if (fromA != NONE) {
                    search(rank, b, fromA + 1, a);
                }
                if (fromB != NONE) {
                    search(rank, a, fromB + 1, b);
                }
            }
            return visitCount;
        }

        private void search(int hubRank, int start, int distance, int parent) {
            queueLength = 0;
            queuedSet = 0L;
            enqueue(start, distance, parent);
            for (int taken = 0; taken < queueLength && taken < MOST_VERTICES; taken++) {
                visit(hubRank, queueVertices[taken], queueDistances[taken], queueParents[taken]);
            }
        }

        private void enqueue(int vertex, int distance, int parent) {
            if (isRow(vertex) && isRow(queueLength)) {
                queuedSet |= 1L << vertex;
                queueVertices[queueLength] = vertex;
                queueDistances[queueLength] = distance;
                queueParents[queueLength] = parent;
                queueLength++;
            }
        }

        private void visit(int hubRank, int vertex, int distance, int parent) {
            visitCount++;
            if (labels.reaches(hubRank, vertex, distance)) {
                prunedCount++;
                return;
            }
            labels.put(hubRank, vertex, distance, parent);
            writtenCount++;
            long fresh = graph.adjacent(vertex) & ~queuedSet;
            for (int next = 0; next < graph.size(); next++) {
                if (hasBit(fresh, next)) {
                    enqueue(next, distance + 1, vertex);
                }
            }
        }
    }
}
