/** Graphs that several tests use. */
final class Graphs {
    private Graphs() {
    }

    /** An object with vertices and no edges. */
    static LandmarkLea empty(int vertices) {
        LandmarkLea lea = new LandmarkLea();
        lea.addVertices(vertices);
        return lea;
    }

    /** The path 0 - 1 - 2 - .. */
    static LandmarkLea path(int vertices) {
        LandmarkLea lea = empty(vertices);
        for (int v = 1; v < vertices; v++) {
            lea.addEdge(v - 1, v);
        }
        return lea;
    }

    static LandmarkLea builtPath(int vertices) {
        LandmarkLea lea = path(vertices);
        lea.build();
        return lea;
    }

    /** The edges 0 - 1 and 2 - 3, built apart and then joined by the edge 1 - 2. */
    static LandmarkLea joinedPairs() {
        LandmarkLea lea = builtPairs();
        lea.addEdge(1, 2);
        return lea;
    }

    static LandmarkLea builtPairs() {
        LandmarkLea lea = empty(4);
        lea.addEdge(0, 1);
        lea.addEdge(2, 3);
        lea.build();
        return lea;
    }

    /** The entries of a label, each as hub:distance:parent. */
    static String label(LandmarkLea lea, int vertex) {
        StringBuilder text = new StringBuilder();
        for (int entry = 0; entry < lea.labelSize(vertex); entry++) {
            if (entry > 0) {
                text.append(' ');
            }
            text.append(lea.entryHub(vertex, entry)).append(':');
            text.append(lea.entryDistance(vertex, entry)).append(':');
            text.append(lea.entryParent(vertex, entry));
        }
        return text.toString();
    }

    /** The vertices of a path, until there is none. */
    static String walk(LandmarkLea lea, int u, int v) {
        StringBuilder text = new StringBuilder();
        for (int place = 0; place <= 48 && lea.pathVertex(u, v, place) != LandmarkLea.NONE; place++) {
            if (place > 0) {
                text.append(' ');
            }
            text.append(lea.pathVertex(u, v, place));
        }
        return text.toString();
    }

    /** As many vertices as there may be, built without an edge and then joined to a path: 0 - 1 - .. - 47. */
    static LandmarkLea grownPath() {
        LandmarkLea lea = empty(48);
        lea.build();
        for (int v = 1; v < 48; v++) {
            lea.addEdge(v - 1, v);
        }
        return lea;
    }

    /** All that calls tell of an object, but for paths and estimates, which the labels tell. */
    static String state(LandmarkLea lea) {
        StringBuilder text = new StringBuilder();
        text.append(lea.vertices()).append(" vertices, ").append(lea.edges()).append(" edges, ");
        text.append(lea.entries()).append(" entries, ").append(lea.entriesIfBuilt()).append(" if built, ");
        text.append(lea.pruned()).append(" pruned, ").append(lea.written()).append(" written");
        for (int v = 0; v < lea.vertices(); v++) {
            text.append("; ").append(v).append(" - ").append(lea.neighbours(v));
            if (lea.isBuilt()) {
                text.append(", rank ").append(lea.rank(v)).append(", label ").append(label(lea, v));
            }
        }
        return text.append(lea.isBuilt() ? "; built" : "; not built").toString();
    }
}
