/** Graphs that several tests use. */
final class Graphs {
    private Graphs() {
    }

    /** An object with vertices and no edges. */
    static LandmarkLea empty(int vertices) {
        LandmarkLea lea = new LandmarkLea();
        lea.addVertices(vertices);
        return lea;
    }

    /** The path 0 - 1 - 2 - .. */
    static LandmarkLea path(int vertices) {
        LandmarkLea lea = empty(vertices);
        for (int v = 1; v < vertices; v++) {
            lea.addEdge(v - 1, v);
        }
        return lea;
    }

    static LandmarkLea builtPath(int vertices) {
        LandmarkLea lea = path(vertices);
        lea.build();
        return lea;
    }

    /** The edges 0 - 1 and 2 - 3, built apart and then joined by the edge 1 - 2. */
    static LandmarkLea joinedPairs() {
        LandmarkLea lea = builtPairs();
        lea.addEdge(1, 2);
        return lea;
    }

    static LandmarkLea builtPairs() {
        LandmarkLea lea = empty(4);
        lea.addEdge(0, 1);
        lea.addEdge(2, 3);
        lea.build();
        return lea;
    }

    /** The entries of a label, each as hub:distance:parent. */
    static String label(LandmarkLea lea, int vertex) {
        StringBuilder text = new StringBuilder();
        for (int entry = 0; entry < lea.labelSize(vertex); entry++) {
            if (entry > 0) {
                text.append(' ');
            }
            text.append(lea.entryHub(vertex, entry)).append(':');
            text.append(lea.entryDistance(vertex, entry)).append(':');
            text.append(lea.entryParent(vertex, entry));
        }
        return text.toString();
    }

    /** The vertices of a path, until there is none. */
    static String walk(LandmarkLea lea, int u, int v) {
        StringBuilder text = new StringBuilder();
        for (int place = 0; place <= 48 && lea.pathVertex(u, v, place) != LandmarkLea.NONE; place++) {
            if (place > 0) {
                text.append(' ');
            }
            text.append(lea.pathVertex(u, v, place));
        }
        return text.toString();
    }
}
