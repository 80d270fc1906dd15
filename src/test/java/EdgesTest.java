/** A test of its own for each sentence of the document that names a boundary case, in the document's words. */
public final class EdgesTest {
    private EdgesTest() {
    }

    public static void main(String[] args) {
        Desk.within(120);
        Book book = new Book();
        EdgesOfTexts.all(book);
        EdgesOfActs.all(book);
        EdgesOfAhead.all(book);
        EdgesOfGuesses.all(book);
        book.close();
        Desk.end();
    }
}
