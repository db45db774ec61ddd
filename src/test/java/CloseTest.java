/** Promise 7: close. */
public final class CloseTest {
    public static void main(String[] args) {
        Check.line("`int close()`:");
        Check.sentence("CLOSES the OPEN block: HEIGHT", CloseTest::closesTheOpenBlock);
        Check.sentence("(The DRAFT stays.)", CloseTest::theDraftStays);
        Check.end();
    }

    private static void closesTheOpenBlock() {
        Book book = new Book(2);
        for (int height = 1; height <= 250; height++) {
            book.close(height).look(2, height);
        }
        book.undo(2, 248).close(249).close(250).look(2, 250);
        // Nothing else is changed by it.
        Book.of(1, 10, 20).spend(0, true).make(2, 7, 4, true).apply(3).close(1)
                .looks(30, 3, 1, 3, 2, 1, 0, 0, 0, 2).owns(1, 20, 1).owns(2, 7, 2)
                .row(0, 1, 0, 0, 0, 10, 0).row(2, 2, 1, 0, -1, 7, 4)
                .undo(0, 1).looks(30, 3, 1, 3, 2, 1, 0, 0, 0, 2);
    }

    private static void theDraftStays() {
        new Book(4).draft(0, 0, 0).close(1).draft(0, 0, 0).apply(-1);
        Book book = Book.of(1, 10, 20).spend(0, true).make(2, 4, 7, true).mint(-3).draft(1, 1, -3);
        book.close(1).draft(1, 1, -3).close(2).draft(1, 1, -3).spend(0, false);
        book.apply(3).row(2, 2, 1, 2, -1, 4, 7).row(0, 1, 0, 0, 2, 10, 0).draft(0, 0, 0);
        Book full = Book.of(1, 1, 1, 1, 1, 1, 1, 1, 1, 1, 1, 1, 1, 1, 1, 1, 1, 1);
        for (int i = 0; i < 16; i++) {
            full.spend(i, true).make(2, 1, i, true);
        }
        full.mint(Long.MAX_VALUE).close(1).draft(16, 16, Long.MAX_VALUE).spend(16, false).make(2, 1, 0, false);
        full.mint(0).apply(0).owns(1, 1, 16).count(2, 16);
    }
}
