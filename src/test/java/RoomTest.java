import com.sun.management.ThreadMXBean;
import java.lang.management.ManagementFactory;

/** The room of a run: an object makes its rows when it is made, and its calls make nothing. */
public final class RoomTest {
    private static final long MOST_BYTES_OF_AN_OBJECT = 100_000;
    // Far below an object or an array for each call, and above what the machine may need beside them.
    private static final long MOST_BYTES_OF_ALL_CALLS = 4_000;

    public static void main(String[] args) {
        LandmarkLea first = new LandmarkLea();
        useDearly(first);
        long start = allocated();
        LandmarkLea lea = new LandmarkLea();
        long made = allocated();
        useDearly(lea);
        long end = allocated();
        Check.equal("room of the object is small", made - start < MOST_BYTES_OF_AN_OBJECT, true);
        Check.equal("room of the calls is small", end - made < MOST_BYTES_OF_ALL_CALLS, true);
        Check.finish("RoomTest");
    }

    private static long allocated() {
        ThreadMXBean bean = (ThreadMXBean) ManagementFactory.getThreadMXBean();
        return bean.getThreadAllocatedBytes(Thread.currentThread().getId());
    }

    /** Nearly 512 calls, with every method among them. */
    private static void useDearly(LandmarkLea lea) {
        lea.addVertices(47);
        lea.addVertex();
        lea.build();
        for (int round = 0; round < 28; round++) {
            addEdges(lea, round * 10);
            lea.entriesIfBuilt();
            lea.distance(round, 47);
            lea.hub(round, 47);
            lea.pathVertex(round, 47, 1);
            lea.within(round, 47);
            lea.eccentricity(round);
            lea.entryHub(round, 0);
        }
        lookAtTheRest(lea);
        lea.clear();
    }

    /** Adds ten edges of a row in which the first 48 join neighbours in a ring, the next every other one, .. */
    private static void addEdges(LandmarkLea lea, int first) {
        for (int edge = first; edge < first + 10; edge++) {
            lea.addEdge(edge % 48, (edge + 1 + edge / 48) % 48);
        }
    }

    private static void lookAtTheRest(LandmarkLea lea) {
        lea.build();
        lea.isBuilt();
        lea.vertices();
        lea.edges();
        lea.neighbours(47);
        lea.rank(47);
        lea.entries();
        lea.labelSize(47);
        lea.entryDistance(47, 0);
        lea.entryParent(47, 0);
        lea.pruned();
        lea.written();
    }
}
