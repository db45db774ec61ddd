/** Promise 9: output. */
public final class OutputTest {
    public static void main(String[] args) {
        Check.line("`int output(int number, int what)`:");
        Check.sentence("Of an OUTPUT that was made", OutputTest::ofAnOutputThatWasMade);
        Check.sentence("what 0: its OWNER", OutputTest::what0ItsOwner);
        Check.sentence("1: 1 if it is LIVE, else 0", OutputTest::what1IfItIsLive);
        Check.sentence("2: HEIGHT when it was made", OutputTest::what2HeightWhenItWasMade);
        Check.sentence("3: HEIGHT when it was spent", OutputTest::what3HeightWhenItWasSpent);
        Check.sentence("(NONE while it is LIVE)", OutputTest::noneWhileItIsLive);
        Check.sentence("NONE if there is none such", OutputTest::noneIfThereIsNoneSuch);
        Check.sentence("or no such what", OutputTest::noneIfNoSuchWhat);
        Check.end();
    }

    private static Book four(Book book, int number, int owner, int live, int madeAt, int spentAt) {
        return book.output(number, 0, owner).output(number, 1, live)
                .output(number, 2, madeAt).output(number, 3, spentAt);
    }

    private static void ofAnOutputThatWasMade() {
        Book book = new Book(4).close(1).mint(30).make(255, 10, 0, true).make(0, 20, 0, true);
        four(book, 0, -1, -1, -1, -1);
        four(book.apply(0), 0, 255, 1, 1, -1);
        four(book, 1, 0, 1, 1, -1);
        // Spent ones were made too.
        four(book.close(2).spend(0, true).apply(10), 0, 255, 0, 1, 2);
        four(book.close(3), 0, 255, 0, 1, 2);
        four(book.undo(1, 2), 0, 255, 1, 1, -1);
        four(book.undo(1, 1), 0, -1, -1, -1, -1);
    }

    private static void what0ItsOwner() {
        Book book = new Book(4).mint(5);
        int[] owners = {255, 0, 254, 1, 128};
        for (int owner : owners) {
            book.make(owner, 1, -1, true);
        }
        book.apply(0);
        for (int number = 0; number < owners.length; number++) {
            book.output(number, 0, owners[number]);
        }
        book.spend(0, true).spend(1, true).apply(2).output(0, 0, 255).output(1, 0, 0);
    }

    private static void what1IfItIsLive() {
        Book book = Book.of(0, 10, 20).output(0, 1, 1).output(1, 1, 1).close(1);
        book.spend(0, true).output(0, 1, 1).apply(10).output(0, 1, 0).output(1, 1, 1);
        book.close(2).output(0, 1, 0).undo(0, 2).output(0, 1, 0).undo(1, 1).output(0, 1, 1);
    }

    private static void what2HeightWhenItWasMade() {
        Book book = new Book(1);
        for (int height = 0; height < 90; height++) {
            book.minted(1, 1).output(height, 2, height).close(height + 1);
        }
        book.output(0, 2, 0).output(1, 2, 1).output(89, 2, 89);
        book.spend(0, true).apply(1).output(0, 2, 0).undo(1, 89).minted(2, 1).output(89, 2, 89).output(88, 2, 88);
    }

    private static void what3HeightWhenItWasSpent() {
        Book book = Book.of(1, 1, 1, 1, 1).spend(0, true).apply(1).output(0, 3, 0);
        book.spend(1, true).close(1).close(2).apply(1).output(1, 3, 2).output(0, 3, 0);
        book.close(3).spend(3, true).apply(1).output(3, 3, 3).output(1, 3, 2);
        book.undo(1, 2).output(1, 3, -1).output(3, 3, -1).output(0, 3, 0);
        book.spend(1, true).close(3).apply(1).output(1, 3, 3);
    }

    private static void noneWhileItIsLive() {
        Book book = Book.of(1, 1, 1).output(0, 3, -1).output(1, 3, -1).close(1).output(0, 3, -1);
        book.spend(0, true).output(0, 3, -1).drop().output(0, 3, -1).spend(1, true).apply(1).output(0, 3, -1);
        book.output(1, 3, 1).undo(0, 1).output(1, 3, -1);
    }

    private static void noneIfThereIsNoneSuch() {
        Book empty = new Book(4);
        for (int number : Edges.noNumbers(0)) {
            four(empty, number, -1, -1, -1, -1);
        }
        Book book = Book.of(1, 10, 20).close(1).minted(1, 30);
        for (int number : Edges.noNumbers(3)) {
            four(book, number, -1, -1, -1, -1);
        }
        four(four(book, 2, 1, 1, 1, -1), 0, 1, 1, 0, -1);
        four(book.make(1, 1, 0, true).undo(0, 1), 2, -1, -1, -1, -1);
    }

    private static void noneIfNoSuchWhat() {
        Book book = Book.of(7, 10, 20).close(1).spend(1, true).apply(20);
        for (int what : Edges.INTS) {
            if (what < 0 || what > 3) {
                book.output(0, what, -1).output(1, what, -1).output(2, what, -1).output(-1, what, -1);
            }
        }
        four(book, 1, 7, 0, 0, 1);
    }
}
