/** Promise 5: drop. */
public final class DropTest {
    public static void main(String[] args) {
        Check.line("`void drop()`:");
        Check.sentence("The DRAFT is empty", DropTest::theDraftIsEmpty);
        Check.end();
    }

    private static void theDraftIsEmpty() {
        new Book(4).drop().draft(0, 0, 0).apply(-1).drop().drop().draft(0, 0, 0);
        Book.of(1, 10).spend(0, true).drop().draft(0, 0, 0).apply(-1).spend(0, true).look(6, 1);
        Book.of(1, 10).make(1, 1, 0, true).drop().draft(0, 0, 0).apply(-1);
        Book.of(1, 10).mint(5).drop().draft(0, 0, 0).make(1, 5, 0, true).apply(-2);
        Book.of(1, 10).mint(Long.MIN_VALUE).drop().draft(0, 0, 0).spend(0, true).apply(10);
        fullOnesToo();
        nothingElseChanges();
    }

    private static void fullOnesToo() {
        Book book = Book.of(1, 1, 1, 1, 1, 1, 1, 1, 1, 1, 1, 1, 1, 1, 1, 1, 1);
        for (int round = 0; round < 3; round++) {
            for (int i = 0; i < 16; i++) {
                book.spend(i, true).make(2, 1, round, true);
            }
            book.mint(round).draft(16, 16, round).drop().draft(0, 0, 0);
        }
        book.apply(-1).gather(1, 16, 16).make(3, 16, 9, true).apply(0).row(16, 3, 1, 0, -1, 16, 9).look(3, 17);
    }

    private static void nothingElseChanges() {
        Book book = Book.of(1, 10, 20).spend(1, true).make(2, 15, 4, true).apply(5).close(1);
        book.spend(0, true).make(3, 1, 0, true).mint(-7).drop();
        book.looks(30, 5, 1, 3, 2, 1, 0, 0, 0, 2).owns(1, 10, 0).owns(2, 15, 2).row(1, 1, 0, 0, 0, 20, 1);
        book.undo(0, 1).looks(30, 5, 1, 3, 2, 1, 0, 0, 0, 2);
    }
}
