/** A test for each sentence of the document that names an edge; each stands under the words of its sentence. */
public final class EdgeTest {
    private EdgeTest() {
    }

    public static void main(String[] args) {
        LineEdges.run();
        TickEdges.run();
        GotEdges.run();
        TextEdges.run();
        AskedEdges.run();
        CallEdges.run();
        WrongEdges.run();
        Check.close();
    }
}
