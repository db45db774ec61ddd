/** Promise 3: make. */
public final class MakeTest {
    public static void main(String[] args) {
        Check.line("`boolean make(int owner, long amount, long tag)`:");
        Check.sentence("One more to make: true", MakeTest::oneMoreToMake);
        Check.sentence("false if owner", MakeTest::falseIfOwnerIsNone);
        Check.sentence("or amount is none", MakeTest::falseIfAmountIsNone);
        Check.sentence("or the DRAFT has 16", MakeTest::falseIfTheDraftHas16);
        Check.end();
    }

    private static void oneMoreToMake() {
        Book book = new Book(4).look(7, 0);
        book.make(1, 10, 5, true).draft(0, 1, 0).make(1, 10, 5, true).draft(0, 2, 0);
        // They are to be made, but not yet there.
        book.looks(0, 0, 0, 0, 0, 0, 0, 2, 0, 0).noRow(0).owns(1, 0);
        book.mint(20).apply(0).owns(1, 20, 0, 1).row(1, 1, 1, 0, -1, 10, 5);
        for (long tag : Edges.LONGS) {
            book.make(0, 1, tag, true);
        }
    }

    private static void falseIfOwnerIsNone() {
        Book book = new Book(4).mint(4);
        for (int owner : Edges.NO_OWNERS) {
            book.make(owner, 1, 0, false).look(7, 0);
        }
        for (int owner : new int[] {0, 1, 254, 255}) {
            book.make(owner, 1, 0, true);
        }
        book.apply(0).owns(0, 1, 0).owns(1, 1, 1).owns(254, 1, 2).owns(255, 1, 3);
    }

    private static void falseIfAmountIsNone() {
        Book book = new Book(4);
        for (long amount : Edges.NO_AMOUNTS) {
            book.make(1, amount, 7, false).look(7, 0);
        }
        // An owner and an amount that are none each do not make up for one another.
        book.make(256, 0, 0, false).make(-1, -1, 0, false).make(Integer.MIN_VALUE, Long.MIN_VALUE, 0, false);
        long[] amounts = {1, 2, 4294967296L, Edges.MOST, Edges.MOST + 1, Long.MAX_VALUE - 1, Long.MAX_VALUE};
        for (int i = 0; i < amounts.length; i++) {
            book.make(1, amounts[i], 0, true).look(7, i + 1);
        }
    }

    private static void falseIfTheDraftHas16() {
        Book book = Book.of(1, 10, 10).spend(0, true).mint(6);
        for (int i = 0; i < 14; i++) {
            book.make(2, 1, i, true);
        }
        book.look(7, 14).make(2, 1, 14, true).look(7, 15).make(2, 1, 15, true).look(7, 16);
        book.make(2, 1, 16, false).make(255, Long.MAX_VALUE, 0, false).make(-1, 1, 0, false).draft(1, 16, 6);
        book.close(1).make(2, 1, 16, false).spend(1, true).draft(2, 16, 6);
        book.apply(10).look(7, 0).look(3, 18).tag(2, 0).tag(17, 15).noRow(18).make(2, 1, 16, true);
    }
}
