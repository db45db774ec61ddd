/** Promise 2: spend. */
public final class SpendTest {
    public static void main(String[] args) {
        Check.line("`boolean spend(int number)`:");
        Check.sentence("One more to spend: true", SpendTest::oneMoreToSpend);
        Check.sentence("false if there is no such LIVE OUTPUT", SpendTest::falseIfThereIsNoSuchLiveOutput);
        Check.sentence("it is in the DRAFT", SpendTest::falseIfItIsInTheDraft);
        Check.sentence("or that has 16", SpendTest::falseIfThatHas16);
        Check.end();
    }

    private static void oneMoreToSpend() {
        Book book = Book.of(1, 10, 20, 30).look(6, 0);
        book.spend(2, true).draft(1, 0, 0).spend(0, true).draft(2, 0, 0);
        // It is to be spent, but not yet spent.
        book.output(2, 1, 1).output(2, 3, -1).owns(1, 60, 0, 1, 2).looks(60, 0, 0, 3, 3, 0, 2, 0, 0, 1);
        book.apply(40).owns(1, 20, 1);
    }

    private static void falseIfThereIsNoSuchLiveOutput() {
        Book empty = new Book(4);
        for (int number : Edges.noNumbers(0)) {
            empty.spend(number, false);
        }
        Book book = Book.of(1, 10, 20, 30).close(1);
        for (int number : Edges.noNumbers(3)) {
            book.spend(number, false);
        }
        book.spend(0, true).spend(2, true).apply(40).spend(0, false).spend(2, false).spend(1, true);
        book.drop().mint(5).make(1, 5, 0, true).spend(3, false).apply(0).spend(3, true).spend(4, false);
        book.undo(0, 1).spend(3, false).spend(2, true).spend(0, true).look(6, 2);
        book.undo(1, 0).spend(0, false).spend(2, false).look(6, 0);
    }

    private static void falseIfItIsInTheDraft() {
        Book book = Book.of(1, 10, 20, 30);
        book.spend(0, true).spend(0, false).spend(2, true).spend(0, false).spend(2, false).look(6, 2);
        book.close(1).spend(0, false).apply(40).undo(0, 1).spend(0, true).spend(0, false);
        book.drop().spend(0, true).drop().gather(1, 30, 1).spend(2, false).spend(0, true).look(6, 2);
    }

    private static void falseIfThatHas16() {
        Book book = Book.of(1, 1, 1, 1, 1, 1, 1, 1, 1, 1, 1, 1, 1, 1, 1, 1, 1, 1, 1);
        for (int i = 0; i < 14; i++) {
            book.spend(17 - i, true);
        }
        book.look(6, 14).spend(3, true).look(6, 15).spend(2, true).look(6, 16);
        book.spend(1, false).spend(0, false).spend(2, false).look(6, 16);
        // Those to make take no room of those to spend.
        book.drop();
        for (int i = 0; i < 16; i++) {
            book.make(2, 1, 0, true);
        }
        for (int number = 0; number < 16; number++) {
            book.spend(number, true);
        }
        book.spend(16, false).draft(16, 16, 0).apply(0).spend(16, true).spend(17, true);
    }
}
