import java.io.IOException;
import java.nio.file.Files;
import java.nio.file.Path;

/** Every promise of the document, by ordinary inputs, edges and wrong inputs; then its sentences, edge by edge. */
public final class PromiseTests {
    private PromiseTests() {
    }

    public static void main(String[] args) throws IOException {
        Check check = new Check();
        ShelfTests.run(check);
        ValleyTests.run(check);
        LawTests.run(check);
        OutlookTests.run(check);
        RuleTests.run(check);
        TruthTests.run(check);
        ValleyEdges.run(check);
        LawEdges.run(check);
        HourEdges.run(check);
        OutcomeEdges.run(check);
        ShelfEdges.run(check);
        RefusalEdges.run(check);
        check.sentencesStandIn(Files.readString(Path.of("../shared/DOC.md")));
        if (!check.report()) {
            System.exit(1);
        }
    }
}
