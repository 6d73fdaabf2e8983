import java.io.IOException;
import java.nio.file.Path;

/** A test for each sentence of the document; it fails, too, if the document has a sentence without one. */
public final class EdgesTest {
    public static void main(String[] args) throws IOException {
        Page.read(Path.of(args.length > 0 ? args[0] : "../shared/DOC.md"));
        EdgesOfBoards.run();
        EdgesOfMoves.run();
        EdgesOfTelling.run();
        EdgesOfProblems.run();
        EdgesOfHistory.run();
        EdgesOfTourneys.run();
        Page.end();
        Due.end("EdgesTest");
    }
}
