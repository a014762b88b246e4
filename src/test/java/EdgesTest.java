/** Every sentence of the document that names an edge, with a run of its own. */
public final class EdgesTest {
    public static void main(String[] none) {
        EdgesOfWords.run();
        EdgesOfChanges.run();
        EdgesOfAnswers.run();
        Edges.end();
        Script.end();
    }
}
