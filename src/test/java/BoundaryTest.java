/** Every sentence of the document that names a boundary, each with a test of its own. */
public final class BoundaryTest {
    private BoundaryTest() {
    }

    public static void main(String[] args) throws Exception {
        Book book = new Book();
        new TextBoundaries(book).hold();
        new FormulaBoundaries(book).hold();
        new ActBoundaries(book).hold();
        new QuestionBoundaries(book).hold();
        new LookBoundaries(book).hold();
        book.end("BoundaryTest");
    }
}
