/** Promise 11: tag. */
public final class TagTest {
    public static void main(String[] args) {
        Check.line("`long tag(int number)`:");
        Check.sentence("Its TAG", TagTest::itsTag);
        Check.sentence("0 if there is none such", TagTest::zeroIfThereIsNoneSuch);
        Check.end();
    }

    private static void itsTag() {
        Book book = new Book(4).mint(Edges.LONGS.length);
        for (long tag : Edges.LONGS) {
            book.make(3, 1, tag, true);
        }
        book.apply(0).close(1);
        for (int number = 0; number < Edges.LONGS.length; number++) {
            book.tag(number, Edges.LONGS[number]);
        }
        // Spent or not, and the same one may be given to many.
        book.spend(0, true).apply(1).tag(0, Long.MIN_VALUE);
        book.mint(2).make(3, 1, 77, true).make(3, 1, 77, true).apply(0);
        book.tag(Edges.LONGS.length, 77).tag(Edges.LONGS.length + 1, 77);
    }

    private static void zeroIfThereIsNoneSuch() {
        Book empty = new Book(4).mint(5).make(1, 5, 5, true);
        for (int number : Edges.noNumbers(0)) {
            empty.tag(number, 0);
        }
        Book book = new Book(4).mint(3).make(1, 1, -7, true).make(1, 2, 8, true).apply(0).close(1);
        book.mint(1).make(1, 1, 9, true).apply(0);
        for (int number : Edges.noNumbers(3)) {
            book.tag(number, 0);
        }
        book.tag(0, -7).tag(2, 9).make(1, 1, 10, true).tag(3, 0);
        book.undo(0, 1).tag(2, 0).tag(1, 8).undo(1, 0).tag(0, 0).tag(1, 0);
    }
}
