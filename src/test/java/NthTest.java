/** Promise 14: nth. */
public final class NthTest {
    public static void main(String[] args) {
        Check.line("`int nth(int owner, int i)`:");
        Check.sentence("The NUMBER of the i-th LIVE OUTPUT of an OWNER", NthTest::theNumberOfTheIth);
        Check.sentence("by NUMBERS", NthTest::byNumbers);
        Check.sentence("NONE if there is none such", NthTest::noneIfThereIsNoneSuch);
        Check.end();
    }

    private static Book mixed() {
        Book book = new Book(4).mint(6);
        for (int owner : new int[] {7, 0, 7, 255, 7, 0}) {
            book.make(owner, 1, 0, true);
        }
        return book.apply(0).close(1);
    }

    private static void theNumberOfTheIth() {
        Book book = mixed().owns(7, 3, 0, 2, 4).owns(0, 2, 1, 5).owns(255, 1, 3);
        book.spend(0, true).spend(2, true).nth(7, 0, 0).nth(7, 1, 2).nth(7, 2, 4);
        book.apply(2).nth(7, 0, 4).nth(7, 1, -1).minted(7, 1).nth(7, 1, 6);
        book.undo(0, 1).owns(7, 3, 0, 2, 4);
        Book many = new Book(4);
        for (int i = 0; i < 27; i++) {
            many.minted(5, 1, 1, 1, 1, 1, 1, 1, 1, 1, 1, 1, 1, 1, 1, 1, 1);
        }
        many.nth(5, 0, 0).nth(5, 1, 1).nth(5, 430, 430).nth(5, 431, 431).nth(5, 432, -1);
    }

    private static void byNumbers() {
        // Not by AMOUNTS, by TAGS, or by when they became LIVE again.
        Book book = new Book(4).mint(60).make(1, 10, 9, true).make(1, 30, 5, true).make(1, 20, 7, true).apply(0);
        book.owns(1, 60, 0, 1, 2).close(1).spend(0, true).apply(10).owns(1, 50, 1, 2);
        book.minted(1, 100).owns(1, 150, 1, 2, 3).undo(0, 1).owns(1, 60, 0, 1, 2);
        book.gather(1, 50, 2).owns(1, 60, 0, 1, 2);
    }

    private static void noneIfThereIsNoneSuch() {
        Book book = mixed();
        for (int i : new int[] {Integer.MIN_VALUE, Integer.MIN_VALUE + 1, -65536, -2, -1, 3, 4, 65536,
            Integer.MAX_VALUE - 1, Integer.MAX_VALUE}) {
            book.nth(7, i, -1);
            new Book(4).nth(0, i, -1);
        }
        book.nth(7, 2, 4).nth(255, 0, 3).nth(255, 1, -1).nth(254, 0, -1).nth(8, 0, -1).nth(6, 0, -1);
        for (int owner : Edges.NO_OWNERS) {
            for (int i : new int[] {Integer.MIN_VALUE, -1, 0, 1, Integer.MAX_VALUE}) {
                book.nth(owner, i, -1);
            }
        }
        book.spend(3, true).apply(1).nth(255, 0, -1).undo(0, 1).nth(255, 0, 3).undo(1, 0).nth(255, 0, -1).nth(7, 0, -1);
        new Book(4).nth(0, 0, -1).make(0, 1, 0, true).nth(0, 0, -1);
    }
}
