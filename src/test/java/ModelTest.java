import java.util.Random;

/** All promises: long runs of calls, each of whose answers is compared with the model's. */
public final class ModelTest {
    private static final int RUNS = 1500;
    private static final int CALLS = 512;
    private static final int[] ODD_NUMBERS = {-1, 48, 49, 64, 1 << 20, Integer.MAX_VALUE, Integer.MIN_VALUE};

    /** A call of the class and the same one of the model. */
    private interface Call {
        long answer();
    }

    private final Random random;
    private final LandmarkLea lea = new LandmarkLea();
    private final Model model = new Model();
    private final int mostVertices;
    private final int edgeShare;
    private final int oddShare;
    private final int clearShare;

    private ModelTest(int seed) {
        random = new Random(seed);
        int[] sizes = {3, 6, 12, 24, 48};
        mostVertices = sizes[random.nextInt(sizes.length)];
        edgeShare = 5 + random.nextInt(60);
        oddShare = random.nextInt(3) * 4;
        clearShare = random.nextInt(2);
    }

    public static void main(String[] args) {
        for (int seed = 0; seed < RUNS; seed++) {
            new ModelTest(seed).run(seed);
        }
        Check.finish("ModelTest");
    }

    private void run(int seed) {
        for (int call = 0; call < CALLS; call++) {
            step("run " + seed + ", call " + call + ": ");
        }
    }

    private void step(String where) {
        int kind = random.nextInt(100);
        if (kind < edgeShare) {
            addEdge(where);
        } else if (kind < edgeShare + 5) {
            addVertices(where);
        } else if (kind < edgeShare + 7) {
            compare(where + "build()", lea::build, model::build);
        } else if (kind < edgeShare + 7 + clearShare) {
            compare(where + "clear()", lea::clear, model::clear);
        } else {
            look(where);
        }
    }

    private void addEdge(String where) {
        int a = vertex();
        int b = vertex();
        compare(where + "addEdge(" + a + ", " + b + ")", () -> lea.addEdge(a, b), () -> model.addEdge(a, b));
    }

    private void addVertices(String where) {
        int room = mostVertices - model.vertices();
        if (room <= 0 && random.nextInt(8) > 0) {
            look(where);
        } else if (random.nextBoolean()) {
            compare(where + "addVertex()", lea::addVertex, model::addVertex);
        } else {
            int count = isOdd() ? number(0) : 1 + random.nextInt(Math.max(1, room));
            compare(where + "addVertices(" + count + ")", () -> lea.addVertices(count), () -> model.addVertices(count));
        }
    }

    private void look(String where) {
        switch (random.nextInt(6)) {
            case 0 -> lookAtCounts(where);
            case 1, 2 -> lookAtVertex(where, vertex(), number(6));
            case 3 -> lookAtEntry(where, vertex(), number(8));
            default -> lookAtPair(where, vertex(), vertex(), number(8));
        }
    }

    private void lookAtCounts(String where) {
        switch (random.nextInt(7)) {
            case 0 -> compare(where + "vertices()", lea::vertices, model::vertices);
            case 1 -> compare(where + "edges()", lea::edges, model::edges);
            case 2 -> compare(where + "isBuilt()", () -> lea.isBuilt() ? 1 : 0, () -> model.isBuilt() ? 1 : 0);
            case 3 -> compare(where + "entries()", lea::entries, model::entries);
            case 4 -> compare(where + "entriesIfBuilt()", lea::entriesIfBuilt, model::entriesIfBuilt);
            case 5 -> compare(where + "pruned()", lea::pruned, model::pruned);
            default -> compare(where + "written()", lea::written, model::written);
        }
    }

    private void lookAtVertex(String where, int v, int radius) {
        switch (random.nextInt(5)) {
            case 0 -> compare(where + "neighbours(" + v + ")", () -> lea.neighbours(v), () -> model.neighbours(v));
            case 1 -> compare(where + "rank(" + v + ")", () -> lea.rank(v), () -> model.rank(v));
            case 2 -> compare(where + "labelSize(" + v + ")", () -> lea.labelSize(v), () -> model.labelSize(v));
            case 3 -> compare(where + "eccentricity(" + v + ")",
                    () -> lea.eccentricity(v), () -> model.eccentricity(v));
            default -> compare(where + "within(" + v + ", " + radius + ")",
                    () -> lea.within(v, radius), () -> model.within(v, radius));
        }
    }

    private void lookAtEntry(String where, int v, int entry) {
        String call = "(" + v + ", " + entry + ")";
        switch (random.nextInt(3)) {
            case 0 -> compare(where + "entryHub" + call,
                    () -> lea.entryHub(v, entry), () -> model.entryHub(v, entry));
            case 1 -> compare(where + "entryDistance" + call,
                    () -> lea.entryDistance(v, entry), () -> model.entryDistance(v, entry));
            default -> compare(where + "entryParent" + call,
                    () -> lea.entryParent(v, entry), () -> model.entryParent(v, entry));
        }
    }

    private void lookAtPair(String where, int u, int v, int place) {
        String pair = "(" + u + ", " + v;
        switch (random.nextInt(3)) {
            case 0 -> compare(where + "distance" + pair + ")", () -> lea.distance(u, v), () -> model.distance(u, v));
            case 1 -> compare(where + "hub" + pair + ")", () -> lea.hub(u, v), () -> model.hub(u, v));
            default -> compare(where + "pathVertex" + pair + ", " + place + ")",
                    () -> lea.pathVertex(u, v, place), () -> model.pathVertex(u, v, place));
        }
    }

    private int vertex() {
        int count = model.vertices();
        return isOdd() || count == 0 ? number(count + 1) : random.nextInt(count);
    }

    private int number(int small) {
        return isOdd() || small == 0 ? ODD_NUMBERS[random.nextInt(ODD_NUMBERS.length)] : random.nextInt(small);
    }

    private boolean isOdd() {
        return random.nextInt(100) < oddShare;
    }

    private static void compare(String what, Call got, Call due) {
        Check.equal(what, outcome(got), outcome(due));
    }

    private static String outcome(Call call) {
        try {
            return Long.toString(call.answer());
        } catch (RuntimeException e) {
            return "throws." + e.getClass().getSimpleName();
        }
    }
}
