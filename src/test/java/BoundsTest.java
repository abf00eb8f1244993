/**
 * A test of its own for each sentence of the terms and of promises 1 to 26. Each names the sentence by quoting it; what
 * of the document no test has quoted is told as a fault, so that no sentence is left out.
 */
public final class BoundsTest {
    private BoundsTest() {
    }

    public static void main(String[] args) {
        LampTermsBounds.run();
        WearTermsBounds.run();
        TextBounds.run();
        HistoryBounds.run();
        ActBounds.run();
        TellBounds.run();
        Check.due("terms and promises that the document has", Document.countSections(), 6 + 26);
        Check.end();
        for (String stretch : Document.findUnquoted()) {
            System.out.println("without a test: " + stretch);
            System.exit(1);
        }
    }
}
