/** Every sentence of the document's Terms and promises, from the first to the last, each with a test of its own. */
public final class DocumentTest {
    private DocumentTest() {
    }

    public static void main(String[] args) throws Exception {
        Book book = new Book();
        new Grammar(book).hold();
        new PlainSentences(book).hold();
        new TextBoundaries(book).hold();
        new FormulaBoundaries(book).hold();
        new ActBoundaries(book).hold();
        new QuestionBoundaries(book).hold();
        new LookBoundaries(book).hold();
        book.end("DocumentTest");
    }
}
