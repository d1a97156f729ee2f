import java.io.IOException;
import java.nio.file.Path;

/** For each sentence of ../shared/DOC.md that names an edge the tests that would fail if it were broken. */
public final class EdgesTest {
    private EdgesTest() { }

    public static void main(String[] args) throws IOException {
        Edges.read(Path.of(args.length > 0 ? args[0] : "../shared/DOC.md"));
        EdgesOfTexts.run();
        EdgesOfDays.run();
        EdgesOfActs.run();
        EdgesOfForesight.run();
        EdgesOfPairs.run();
        EdgesOfSights.run();
        if (Edges.end() > 0) {
            System.exit(1);
        }
    }
}
