/** Each sentence of the document has a test of its own; a sentence that no test names is a fault too. */
public final class SentencesTest {
    private static final int PROMISES = 49;

    public static void main(String[] args) {
        Due due = new Due();
        Book book = new Book(due);
        due.same("promises in the document", book.promises(), PROMISES);
        new WordsPart(due, book).test();
        new FeedingPart(due, book).test();
        new MakingPart(due, book).test();
        new RegistersPart(due, book).test();
        new TextsPart(due, book).test();
        new HousePart(due, book).test();
        book.end();
        due.end();
    }
}
