/** Promise 8: undo. */
public final class UndoTest {
    public static void main(String[] args) {
        Check.line("`int undo(int n)`:");
        Check.sentence("UNDOES n blocks: HEIGHT", UndoTest::undoesBlocks);
        Check.sentence("NONE if n is below 0", UndoTest::noneIfNIsBelow0);
        Check.sentence("or more than can be undone", UndoTest::noneIfMoreThanCanBeUndone);
        Check.sentence("(The DRAFT is empty then.)", UndoTest::theDraftIsEmptyThen);
        Check.end();
    }

    /** The k-th block spends the k - 1 that the one ahead of it made, mints 2, makes k, and leaves 1 to the POT. */
    private static Book blocks(int depth, int closed) {
        Book book = new Book(depth);
        for (int k = 1; k <= closed; k++) {
            if (k > 1) {
                book.spend(k - 2, true);
            }
            book.mint(2).make(1, k, k, true).apply(1).close(k);
        }
        return book;
    }

    private static Book asBehind(Book book, int closed) {
        book.looks(2 * closed, closed, closed, closed, closed == 0 ? 0 : 1).draft(0, 0, 0).look(9, closed);
        if (closed > 0) {
            book.owns(1, closed, closed - 1).row(closed - 1, 1, 1, closed - 1, -1, closed, closed);
        }
        return book.noRow(closed);
    }

    private static void undoesBlocks() {
        asBehind(new Book(4).undo(0, 0), 0);
        for (int n = 0; n <= 4; n++) {
            asBehind(blocks(4, 4).undo(n, 4 - n), 4 - n).look(5, 4 - n);
            asBehind(blocks(4, 9).undo(n, 9 - n), 9 - n).look(5, 4 - n);
            asBehind(blocks(4, 9).minted(2, 50).spend(8, true).apply(9).undo(n, 9 - n), 9 - n);
        }
        for (int n : new int[] {0, 1, 32, 63, 64}) {
            asBehind(blocks(64, 64).undo(n, 64 - n), 64 - n);
            asBehind(blocks(64, 70).undo(n, 70 - n), 70 - n).look(5, 64 - n);
        }
        asBehind(blocks(4, 9).undo(1, 8).undo(1, 7).undo(2, 5), 5).look(5, 0);
        asBehind(blocks(1, 9).undo(1, 8), 8).look(5, 0);
    }

    private static void noneIfNIsBelow0() {
        Book book = blocks(4, 6).make(2, 1, 0, true).mint(1);
        for (int n : Edges.INTS_BELOW_0) {
            new Book(4).undo(n, -1).looks(0, 0, 0, 0, 0, 0, 0, 0, 0, 0);
            book.undo(n, -1).look(2, 6).look(5, 4).draft(0, 1, 1);
        }
        asBehind(book.undo(0, 6), 6).look(5, 4);
    }

    private static void noneIfMoreThanCanBeUndone() {
        Book empty = new Book(64);
        for (int n : new int[] {1, 2, 64, 65, 65536, Integer.MAX_VALUE - 1, Integer.MAX_VALUE}) {
            empty.undo(n, -1);
        }
        for (int depth : new int[] {1, 3, 64}) {
            Book book = blocks(depth, 65).make(2, 1, 0, true);
            for (int n : new int[] {depth + 1, 65, 66, 67, 65536, Integer.MAX_VALUE - 1, Integer.MAX_VALUE}) {
                book.undo(n, -1).look(2, 65).look(5, depth).draft(0, 1, 0);
            }
            asBehind(book.undo(depth, 65 - depth), 65 - depth).undo(1, -1);
        }
        // Fewer were closed than DEPTH, and then fewer are left.
        Book few = blocks(5, 3).undo(4, -1).undo(2, 1).undo(2, -1);
        asBehind(few.undo(1, 0), 0).undo(1, -1).undo(0, 0);
    }

    private static void theDraftIsEmptyThen() {
        for (int n = 0; n <= 2; n++) {
            Book book = Book.of(1, 10, 20).close(1).close(2).spend(1, true).make(2, 3, 0, true).mint(4).draft(1, 1, 4);
            book.undo(n, 2 - n).draft(0, 0, 0).apply(-1).make(1, 4, 0, true).apply(-2);
        }
        Book.of(1, 10).close(1).spend(0, true).undo(0, 1).draft(0, 0, 0).spend(0, true).look(6, 1);
        Book.of(1, 10).close(1).make(1, 1, 0, true).undo(0, 1).draft(0, 0, 0).apply(-1);
        Book.of(1, 10).close(1).mint(Long.MIN_VALUE).undo(0, 1).draft(0, 0, 0);
        new Book(4).mint(1).make(1, 1, 0, true).undo(0, 0).draft(0, 0, 0);
        // Not if it is refused.
        Book.of(1, 10).close(1).spend(0, true).mint(2).undo(2, -1).undo(-1, -1).draft(1, 0, 2).apply(12);
    }
}
