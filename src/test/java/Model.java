import java.util.ArrayDeque;
import java.util.ArrayList;
import java.util.Comparator;
import java.util.HashSet;
import java.util.List;
import java.util.Map;
import java.util.Set;
import java.util.TreeMap;
import java.util.TreeSet;

/** The document once more, followed word by word and without a thought for speed, to compare with. */
final class Model {
    private static final int NONE = -1;

    private record Entry(int distance, int parent) {
    }

    private record Visit(int vertex, int distance, int parent) {
    }

    private final List<TreeSet<Integer>> neighbours = new ArrayList<>();
    private List<Integer> byRank = new ArrayList<>();
    // Of each vertex the entries by the ranks of their hubs.
    private List<TreeMap<Integer, Entry>> labels = new ArrayList<>();
    private boolean built = false;
    private int visits = 0;
    private int pruned = 0;
    private int written = 0;

    int addVertex() {
        if (neighbours.size() == 48) {
            throw new IllegalStateException();
        }
        int vertex = neighbours.size();
        neighbours.add(new TreeSet<>());
        if (built) {
            byRank.add(vertex);
            TreeMap<Integer, Entry> label = new TreeMap<>();
            label.put(byRank.size() - 1, new Entry(0, NONE));
            labels.add(label);
        }
        return vertex;
    }

    int addVertices(int count) {
        if (count < 1 || count > 48) {
            throw new IllegalArgumentException();
        }
        if (vertices() + count > 48) {
            throw new IllegalStateException();
        }
        for (int i = 0; i < count; i++) {
            addVertex();
        }
        return vertices();
    }

    int addEdge(int a, int b) {
        vertex(a);
        vertex(b);
        if (a == b || neighbours.get(a).contains(b)) {
            throw new IllegalStateException();
        }
        neighbours.get(a).add(b);
        neighbours.get(b).add(a);
        if (!built) {
            return 0;
        }
        startCounting();
        TreeMap<Integer, Entry> beforeA = new TreeMap<>(labels.get(a));
        TreeMap<Integer, Entry> beforeB = new TreeMap<>(labels.get(b));
        TreeSet<Integer> hubs = new TreeSet<>(beforeA.keySet());
        hubs.addAll(beforeB.keySet());
        for (int rank : hubs) {
            Entry ofA = labels.get(a).get(rank);
            if (ofA != null) {
                search(rank, new Visit(b, ofA.distance + 1, a));
            }
            Entry ofB = beforeB.get(rank);
            if (ofB != null) {
                search(rank, new Visit(a, ofB.distance + 1, b));
            }
        }
        return visits;
    }

    int clear() {
        int count = edges();
        for (Set<Integer> set : neighbours) {
            set.clear();
        }
        built = false;
        byRank = new ArrayList<>();
        labels = new ArrayList<>();
        startCounting();
        return count;
    }

    int vertices() {
        return neighbours.size();
    }

    int edges() {
        int ends = 0;
        for (Set<Integer> set : neighbours) {
            ends += set.size();
        }
        return ends / 2;
    }

    long neighbours(int v) {
        vertex(v);
        long mask = 0;
        for (int other : neighbours.get(v)) {
            mask |= 1L << other;
        }
        return mask;
    }

    int build() {
        built = true;
        startCounting();
        labels = new ArrayList<>();
        byRank = new ArrayList<>();
        for (int v = 0; v < vertices(); v++) {
            labels.add(new TreeMap<>());
            byRank.add(v);
        }
        byRank.sort(Comparator.comparingInt((Integer v) -> -neighbours.get(v).size()));
        for (int rank = 0; rank < byRank.size(); rank++) {
            search(rank, new Visit(byRank.get(rank), 0, NONE));
        }
        return visits;
    }

    private void startCounting() {
        visits = 0;
        pruned = 0;
        written = 0;
    }

    private void search(int rank, Visit start) {
        ArrayDeque<Visit> queue = new ArrayDeque<>();
        Set<Integer> queued = new HashSet<>();
        queue.addLast(start);
        queued.add(start.vertex);
        while (!queue.isEmpty()) {
            Visit visit = queue.removeFirst();
            visits++;
            Integer estimate = estimate(byRank.get(rank), visit.vertex, rank);
            if (estimate != null && estimate <= visit.distance) {
                pruned++;
                continue;
            }
            labels.get(visit.vertex).put(rank, new Entry(visit.distance, visit.parent));
            written++;
            for (int next : neighbours.get(visit.vertex)) {
                if (queued.add(next)) {
                    queue.addLast(new Visit(next, visit.distance + 1, visit.vertex));
                }
            }
        }
    }

    /** The estimate of two vertices up to a rank; null if it is infinite. */
    private Integer estimate(int u, int v, int lastRank) {
        Integer least = null;
        for (Map.Entry<Integer, Entry> entry : labels.get(u).entrySet()) {
            Entry other = labels.get(v).get(entry.getKey());
            if (entry.getKey() <= lastRank && other != null) {
                int sum = entry.getValue().distance + other.distance;
                least = least == null ? sum : Math.min(least, sum);
            }
        }
        return least;
    }

    boolean isBuilt() {
        return built;
    }

    int rank(int v) {
        label(v);
        return byRank.indexOf(v);
    }

    int entries() {
        int count = 0;
        for (Map<Integer, Entry> label : labels) {
            count += label.size();
        }
        return count;
    }

    int entriesIfBuilt() {
        Model other = new Model();
        for (TreeSet<Integer> set : neighbours) {
            other.neighbours.add(new TreeSet<>(set));
        }
        other.build();
        return other.entries();
    }

    int labelSize(int v) {
        return label(v).size();
    }

    int entryHub(int v, int entry) {
        return byRank.get(entry(v, entry).getKey());
    }

    int entryDistance(int v, int entry) {
        return entry(v, entry).getValue().distance;
    }

    int entryParent(int v, int entry) {
        return entry(v, entry).getValue().parent;
    }

    int distance(int u, int v) {
        vertex(v);
        label(u);
        Integer estimate = estimate(u, v, vertices());
        return estimate == null ? NONE : estimate;
    }

    int hub(int u, int v) {
        int estimate = distance(u, v);
        for (int rank = 0; rank < byRank.size(); rank++) {
            Entry ofU = labels.get(u).get(rank);
            Entry ofV = labels.get(v).get(rank);
            if (ofU != null && ofV != null && ofU.distance + ofV.distance == estimate) {
                return byRank.get(rank);
            }
        }
        return NONE;
    }

    int pathVertex(int u, int v, int place) {
        int hub = hub(u, v);
        if (place < 0) {
            throw new IllegalArgumentException();
        }
        if (hub == NONE) {
            return NONE;
        }
        List<Integer> path = wayTo(hub, u);
        List<Integer> back = wayTo(hub, v);
        for (int i = back.size() - 2; i >= 0; i--) {
            path.add(back.get(i));
        }
        return place < path.size() ? path.get(place) : NONE;
    }

    private List<Integer> wayTo(int hub, int vertex) {
        List<Integer> way = new ArrayList<>(List.of(vertex));
        int at = vertex;
        while (at != hub) {
            at = labels.get(at).get(byRank.indexOf(hub)).parent;
            way.add(at);
        }
        return way;
    }

    long within(int v, int radius) {
        label(v);
        if (radius < 0 || radius > 47) {
            throw new IllegalArgumentException();
        }
        long mask = 0;
        for (int other = 0; other < vertices(); other++) {
            if (distance(v, other) != NONE && distance(v, other) <= radius) {
                mask |= 1L << other;
            }
        }
        return mask;
    }

    int eccentricity(int v) {
        label(v);
        int greatest = 0;
        for (int other = 0; other < vertices(); other++) {
            greatest = Math.max(greatest, distance(v, other));
        }
        return greatest;
    }

    int pruned() {
        return pruned;
    }

    int written() {
        return written;
    }

    private void vertex(int v) {
        if (v < 0 || v >= vertices()) {
            throw new IndexOutOfBoundsException();
        }
    }

    private TreeMap<Integer, Entry> label(int v) {
        vertex(v);
        if (!built) {
            throw new IllegalStateException();
        }
        return labels.get(v);
    }

    private Map.Entry<Integer, Entry> entry(int v, int entry) {
        TreeMap<Integer, Entry> label = label(v);
        if (entry < 0 || entry >= label.size()) {
            throw new IllegalArgumentException();
        }
        return new ArrayList<>(label.entrySet()).get(entry);
    }
}
