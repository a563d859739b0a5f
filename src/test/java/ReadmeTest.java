import java.io.IOException;
import java.nio.file.Files;
import java.nio.file.Path;
import java.util.ArrayList;
import java.util.List;

/** The example of README.md: its calls are those below, and they answer as its comments say. */
public final class ReadmeTest {
    private static final String[] CALLS = {
        "new LandmarkLea()", "addVertices(4)", "addEdge(0, 1)", "addEdge(2, 3)", "build()", "distance(0, 3)",
        "addEdge(1, 2)", "distance(0, 3)", "pathVertex(0, 3, 1)", "within(0, 2)",
    };

    public static void main(String[] args) throws IOException {
        Check.equal("calls of the example", callsOfReadme().toString(), List.of(CALLS).toString());
        LandmarkLea lea = new LandmarkLea();
        Check.equal("addVertices(4)", lea.addVertices(4), 4);
        Check.equal("addEdge(0, 1)", lea.addEdge(0, 1), 0);
        Check.equal("addEdge(2, 3)", lea.addEdge(2, 3), 0);
        lea.build();
        Check.equal("distance(0, 3) apart", lea.distance(0, 3), LandmarkLea.NONE);
        Check.equal("addEdge(1, 2)", lea.addEdge(1, 2), 7);
        Check.equal("distance(0, 3)", lea.distance(0, 3), 3);
        Check.equal("pathVertex(0, 3, 1)", lea.pathVertex(0, 3, 1), 1);
        Check.equal("within(0, 2)", lea.within(0, 2), 0b0111L);
        Check.finish("ReadmeTest");
    }

    private static List<String> callsOfReadme() throws IOException {
        List<String> calls = new ArrayList<>();
        for (String line : Files.readAllLines(Path.of("README.md"))) {
            int end = line.indexOf(';');
            if (line.startsWith("LandmarkLea lea = ") && end >= 0) {
                calls.add(line.substring("LandmarkLea lea = ".length(), end));
            } else if (line.startsWith("lea.") && end >= 0) {
                calls.add(line.substring("lea.".length(), end));
            }
        }
        return calls;
    }
}
