/** Every promise of the document, by ordinary inputs, edges and wrong inputs. */
public final class PromiseTests {
    private PromiseTests() {
    }

    public static void main(String[] args) {
        Check check = new Check();
        ShelfTests.run(check);
        ValleyTests.run(check);
        LawTests.run(check);
        OutlookTests.run(check);
        RuleTests.run(check);
        TruthTests.run(check);
        if (!check.report()) {
            System.exit(1);
        }
    }
}
