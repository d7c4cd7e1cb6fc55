/** Each sentence of the document that names an edge, asked by itself. */
public final class EdgesTest {
    public static void main(String[] args) {
        Sentences sentences = new Sentences();
        new EdgesOfFormats(sentences).all();
        new EdgesOfFunctions(sentences).all();
        new EdgesOfRows(sentences).all();
        new EdgesOfHardCases(sentences).all();
        new EdgesOfTexts(sentences).all();
        new EdgesOfRefusals(sentences).all();
        sentences.close("EdgesTest");
    }
}
