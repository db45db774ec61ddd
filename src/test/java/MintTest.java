/** Promise 4: mint. */
public final class MintTest {
    public static void main(String[] args) {
        Check.line("`void mint(long amount)`:");
        Check.sentence("The DRAFT's MINT", MintTest::theDraftsMint);
        Check.end();
    }

    private static void theDraftsMint() {
        anyLongTakesThePlaceOfTheLast();
        nothingElseChanges();
        itIsGoneWithTheDraft();
    }

    private static void anyLongTakesThePlaceOfTheLast() {
        Book book = new Book(4);
        for (long mint : Edges.LONGS) {
            book.mint(mint).look(8, mint);
        }
        book.mint(7).mint(7).look(8, 7).mint(-3).look(8, -3).mint(0).look(8, 0);
        book.mint(50).mint(12).make(1, 10, 0, true).apply(2).look(0, 12);
    }

    private static void nothingElseChanges() {
        Book book = Book.of(1, 10, 20).close(1).spend(0, true).make(2, 5, 0, true);
        for (long mint : Edges.LONGS) {
            book.mint(mint).looks(30, 0, 1, 2, 2, 1, 1, 1, mint, 1);
        }
        book.mint(0).apply(5).looks(30, 5, 1, 3, 2, 1, 0, 0, 0, 2);
        // By itself it is nothing that could be applied.
        for (long mint : Edges.LONGS) {
            book.mint(mint).apply(-1).look(8, mint);
        }
    }

    private static void itIsGoneWithTheDraft() {
        Book book = Book.of(1, 10).close(1).look(8, 0);
        book.mint(9).close(2).look(8, 9).undo(1, 1).look(8, 0);
        book.mint(9).drop().look(8, 0);
        book.mint(9).spend(0, true).apply(19).look(8, 0);
    }
}
