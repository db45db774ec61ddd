/** Promise 1: a new object. */
public final class NewBookTest {
    public static void main(String[] args) {
        Check.line("`OutputBook(int depth)`:");
        Check.sentence("Nothing is there", NewBookTest::nothingIsThere);
        Check.sentence("DEPTH is 1 .. 64", NewBookTest::depthIs1To64);
        Check.sentence("(others count as the nearest of these)", NewBookTest::othersCountAsTheNearest);
        Check.end();
    }

    private static void nothingIsThere() {
        for (int depth : Edges.INTS) {
            Book book = new Book(depth).looks(0, 0, 0, 0, 0, 0, 0, 0, 0, 0).noRow(0).spend(0, false);
            for (int owner : new int[] {0, 1, 254, 255}) {
                book.owns(owner, 0).gather(owner, 1, -1);
            }
            book.apply(-1).undo(1, -1).undo(0, 0);
        }
        anotherBookIsAnother();
    }

    private static void anotherBookIsAnother() {
        Book one = new Book(4);
        Book other = new Book(4);
        one.minted(1, 10).close(1).spend(0, true).make(1, 10, 0, true).mint(3);
        other.looks(0, 0, 0, 0, 0, 0, 0, 0, 0, 0).noRow(0).owns(1, 0);
        other.minted(2, 20);
        one.looks(10, 0, 1, 1, 1, 1, 1, 1, 3, 1).row(0, 1, 1, 0, -1, 10, 0);
    }

    private static void depthIs1To64() {
        for (int depth = 1; depth <= 64; depth++) {
            countsAs(depth, depth);
        }
    }

    private static void othersCountAsTheNearest() {
        for (int depth : new int[] {Integer.MIN_VALUE, Integer.MIN_VALUE + 1, -65536, -64, -1, 0}) {
            countsAs(depth, 1);
        }
        for (int depth : new int[] {65, 66, 128, 257, 65537, Integer.MAX_VALUE - 1, Integer.MAX_VALUE}) {
            countsAs(depth, 64);
        }
    }

    /** So many blocks can be taken back, and each with what it did. */
    private static void countsAs(int depth, int due) {
        Book book = new Book(depth);
        for (int height = 0; height < 66; height++) {
            book.mint(2).make(1, 1, 0, true).apply(1).close(height + 1);
        }
        book.look(5, due).undo(due + 1, -1).undo(due, 66 - due).look(5, 0).undo(1, -1);
        book.looks(2 * (66 - due), 66 - due, 66 - due, 66 - due, 66 - due);
    }
}
