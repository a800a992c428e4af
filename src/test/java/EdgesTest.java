/** The edges that the document names, sentence by sentence: the last that may be, the first that may not, and what stays. */
public final class EdgesTest {
    private static final int PROMISES = 66;

    private EdgesTest() {
    }

    public static void main(String[] args) {
        TextEdges.run();
        MeaningEdges.run();
        SearchEdges.run();
        ProofEdges.run();
        StoreEdges.run();
        CallEdges.run();
        ReuseEdges.run();
        int missing = 0;
        for (int n = 1; n <= PROMISES; n++) {
            if (!Edges.isNamed(n)) {
                System.out.println("promise " + n + " has no test of its edges");
                missing++;
            }
        }
        System.out.println(Edges.triedAnswers() + " answers at edges, " + Edges.wrongAnswers() + " not as due");
        System.exit(missing == 0 && Edges.wrongAnswers() == 0 ? 0 : 1);
    }
}
