import java.nio.file.Files;
import java.nio.file.Path;

/** A test of its own for each sentence of the document: what it names as a bound, both sides of it, and what is refused. */
public final class EdgesTest {
    public static void main(String[] args) throws Exception {
        WholeEdges.all();
        TowerEdges.all();
        TapeEdges.all();
        RingingEdges.all();
        ComesEdges.all();
        TurnEdges.all();
        TruthEdges.all();
        RefusalEdges.all();
        ShelfPromises.all();
        MakingPromises.all();
        AskingPromises.all();
        ChoosingPromises.all();
        TruthPromises.all();
        Path doc = Path.of(System.getProperty("project.root", "."), "..", "shared", "DOC.md");
        Edge.covers(Files.readString(doc));
        Due.end();
    }
}
