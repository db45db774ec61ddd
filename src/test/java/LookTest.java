/** Promise 16: look. */
public final class LookTest {
    public static void main(String[] args) {
        Check.line("`long look(int which)`:");
        Check.sentence("which 0: the SUPPLY", LookTest::which0TheSupply);
        Check.sentence("1: the POT", LookTest::which1ThePot);
        Check.sentence("2: HEIGHT", LookTest::which2Height);
        Check.sentence("3: OUTPUTS made", LookTest::which3OutputsMade);
        Check.sentence("4: LIVE ones", LookTest::which4LiveOnes);
        Check.sentence("5: how many blocks can be undone", LookTest::which5HowManyCanBeUndone);
        Check.sentence("6: NUMBERS in the DRAFT", LookTest::which6NumbersInTheDraft);
        Check.sentence("7: OUTPUTS in it", LookTest::which7OutputsInIt);
        Check.sentence("8: its MINT", LookTest::which8ItsMint);
        Check.sentence("9: transactions APPLIED", LookTest::which9TransactionsApplied);
        Check.sentence("(as far as they are not undone)", LookTest::asFarAsTheyAreNotUndone);
        Check.sentence("NONE for any other which", LookTest::noneForAnyOther);
        Check.end();
    }

    private static void which0TheSupply() {
        Book book = new Book(4).look(0, 0).mint(100).make(1, 60, 0, true).look(0, 0).apply(40).look(0, 100).close(1);
        book.spend(0, true).mint(-10).look(0, 100).apply(50).look(0, 90).undo(0, 1).look(0, 100).undo(1, 0).look(0, 0);
        Book.of(1, Edges.MOST).look(0, Edges.MOST).spend(0, true).apply(Edges.MOST).look(0, Edges.MOST);
    }

    private static void which1ThePot() {
        Book book = new Book(4).look(1, 0).mint(100).make(1, 60, 0, true).look(1, 0).apply(40).look(1, 40).close(1);
        book.spend(0, true).apply(60).look(1, 100).undo(0, 1).look(1, 40).undo(1, 0).look(1, 0);
        Book.of(1, Edges.MOST).look(1, 0).spend(0, true).apply(Edges.MOST).look(1, Edges.MOST);
    }

    private static void which2Height() {
        new Book(4).look(2, 0).close(1).look(2, 1).close(2).look(2, 2).undo(1, 1).look(2, 1).undo(2, -1).look(2, 1)
                .undo(0, 1).look(2, 1).undo(1, 0).look(2, 0);
    }

    private static void which3OutputsMade() {
        Book book = new Book(4).look(3, 0).mint(9).make(1, 4, 0, true).make(2, 5, 0, true).look(3, 0);
        book.apply(0).look(3, 2).close(1).look(3, 2).spend(0, true).apply(4).look(3, 2).minted(3, 1).look(3, 3);
        book.undo(0, 1).look(3, 2).undo(1, 0).look(3, 0);
    }

    private static void which4LiveOnes() {
        Book book = new Book(4).look(4, 0).mint(9).make(1, 4, 0, true).make(2, 5, 0, true).look(4, 0);
        book.apply(0).look(4, 2).close(1).spend(0, true).look(4, 2).apply(4).look(4, 1);
        book.spend(1, true).apply(5).look(4, 0).minted(3, 1).look(4, 1).undo(0, 1).look(4, 2).undo(1, 0).look(4, 0);
    }

    private static void which5HowManyCanBeUndone() {
        new Book(2).look(5, 0).close(1).look(5, 1).close(2).look(5, 2).close(3).look(5, 2)
                .undo(0, 3).look(5, 2).undo(3, -1).look(5, 2).undo(1, 2).look(5, 1)
                .undo(1, 1).look(5, 0).close(2).look(5, 1);
    }

    private static void which6NumbersInTheDraft() {
        Book book = Book.of(1, 1, 2, 3).look(6, 0).spend(0, true).look(6, 1).make(1, 1, 0, true).look(6, 1);
        book.spend(0, false).look(6, 1).gather(1, 5, 2).look(6, 3).apply(5).look(6, 0);
        book.spend(3, true).look(6, 1).close(1).look(6, 1).undo(0, 1).look(6, 0).spend(3, true).drop().look(6, 0);
    }

    private static void which7OutputsInIt() {
        Book book = Book.of(1, 5).look(7, 0).make(1, 1, 0, true).look(7, 1).spend(0, true).look(7, 1);
        book.make(1, 0, 0, false).look(7, 1).make(1, 1, 0, true).look(7, 2).close(1).look(7, 2).apply(3).look(7, 0);
        book.make(1, 1, 0, true).undo(0, 1).look(7, 0).make(1, 1, 0, true).drop().look(7, 0);
    }

    private static void which8ItsMint() {
        Book book = Book.of(1, 5).look(8, 0).mint(Long.MIN_VALUE).look(8, Long.MIN_VALUE);
        book.mint(Long.MAX_VALUE).look(8, Long.MAX_VALUE).mint(-1).look(8, -1).close(1).look(8, -1);
        book.spend(0, true).apply(4).look(8, 0).mint(3).undo(0, 1).look(8, 0).mint(3).drop().look(8, 0);
    }

    private static void which9TransactionsApplied() {
        Book book = new Book(4).look(9, 0).apply(-1).look(9, 0).make(1, 1, 0, true).apply(-2).look(9, 0);
        book.mint(1).look(9, 0).apply(0).look(9, 1).close(1).look(9, 1).spend(0, true).apply(1).look(9, 2);
        for (int i = 3; i <= 100; i++) {
            book.mint(1).make(1, 1, 0, true).apply(0).look(9, i);
        }
    }

    private static void asFarAsTheyAreNotUndone() {
        Book book = Book.of(1, 1).close(1).minted(1, 1).minted(1, 1).close(2).minted(1, 1).look(9, 4);
        book.undo(0, 2).look(9, 3).minted(1, 1).look(9, 4).undo(3, -1).look(9, 4).undo(1, 1).look(9, 1);
        book.minted(1, 1).look(9, 2).undo(1, 0).look(9, 0).minted(1, 1).look(9, 1);
    }

    private static void noneForAnyOther() {
        Book book = Book.of(1, 10, 20).close(1).spend(0, true).make(1, 3, 0, true).mint(4);
        for (int which : Edges.INTS) {
            if (which < 0 || which > 9) {
                new Book(4).look(which, -1);
                book.look(which, -1);
            }
        }
        book.look(11, -1).look(256, -1).look(-10, -1).looks(30, 0, 1, 2, 2, 1, 1, 1, 4, 1);
    }
}
