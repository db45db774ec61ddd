/** Promise 10: amount. */
public final class AmountTest {
    public static void main(String[] args) {
        Check.line("`long amount(int number)`:");
        Check.sentence("The AMOUNT of an OUTPUT that was made", AmountTest::ofAnOutputThatWasMade);
        Check.sentence("0 if there is none such", AmountTest::zeroIfThereIsNoneSuch);
        Check.end();
    }

    private static void ofAnOutputThatWasMade() {
        long[] amounts = {1, 2, 1L << 31, 1L << 32, (1L << 61) + 1};
        Book book = Book.of(3, amounts).close(1);
        for (int number = 0; number < amounts.length; number++) {
            book.amount(number, amounts[number]);
        }
        // Spent or not.
        book.spend(0, true).amount(0, 1).spend(4, true).apply(amounts[4] + 1).amount(0, 1).amount(4, amounts[4]);
        Book.of(3, Edges.MOST).amount(0, Edges.MOST).spend(0, true).make(3, Edges.MOST - 1, 0, true).apply(1)
                .amount(0, Edges.MOST).amount(1, Edges.MOST - 1);
    }

    private static void zeroIfThereIsNoneSuch() {
        Book empty = new Book(4).mint(5).make(1, 5, 5, true);
        for (int number : Edges.noNumbers(0)) {
            empty.amount(number, 0);
        }
        Book book = Book.of(3, 10, 20).close(1).minted(3, 30);
        for (int number : Edges.noNumbers(3)) {
            book.amount(number, 0);
        }
        book.amount(2, 30).amount(0, 10).make(3, 9, 0, true).amount(3, 0);
        book.undo(0, 1).amount(2, 0).amount(1, 20).undo(1, 0).amount(0, 0).amount(1, 0);
    }
}
