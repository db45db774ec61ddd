/** Promise 6: apply. */
public final class ApplyTest {
    public static void main(String[] args) {
        Check.line("`long apply()`:");
        Check.sentence("APPLIES the DRAFT: its FEE", ApplyTest::appliesTheDraft);
        Check.sentence("-1 if it has none to spend and none to make", ApplyTest::minus1IfItHasNone);
        Check.sentence("-2 if the FEE would be below 0", ApplyTest::minus2IfTheFeeWouldBeBelow0);
        Check.sentence("or the SUPPLY below 0", ApplyTest::minus2IfTheSupplyWouldBeBelow0);
        Check.sentence("or above 2^62", ApplyTest::minus2IfTheSupplyWouldBeAbove2To62);
        Check.sentence("-3 if more than 2048 OUTPUTS would be made", ApplyTest::minus3IfMoreThan2048WouldBeMade);
        Check.sentence("(The first of these.)", ApplyTest::theFirstOfThese);
        Check.end();
    }

    private static void appliesTheDraft() {
        Book book = Book.of(1, 100).looks(100, 0, 0, 1, 1, 0, 0, 0, 0, 1);
        book.spend(0, true).make(2, 60, 1, true).make(1, 30, 2, true).apply(10);
        book.looks(100, 10, 0, 3, 2, 0, 0, 0, 0, 2).row(0, 1, 0, 0, 0, 100, 0);
        book.row(1, 2, 1, 0, -1, 60, 1).row(2, 1, 1, 0, -1, 30, 2);
        book.close(1).spend(2, true).mint(5).apply(35).looks(105, 45, 1, 3, 1, 1, 0, 0, 0, 3).row(2, 1, 0, 0, 1, 30, 2);
        book.mint(3).make(0, 3, 0, true).apply(0).looks(108, 45, 1, 4, 2, 1, 0, 0, 0, 4).row(3, 0, 1, 1, -1, 3, 0);
        book.spend(3, true).spend(1, true).make(9, 1, 0, true).mint(-62).apply(0).looks(46, 45, 1, 5, 1, 1, 0, 0, 0, 5);
        sixteenForSixteen();
    }

    private static void sixteenForSixteen() {
        Book book = Book.of(1, 1, 2, 3, 4, 5, 6, 7, 8, 9, 10, 11, 12, 13, 14, 15, 16).gather(1, 136, 16);
        for (int i = 0; i < 16; i++) {
            book.make(2, 16 - i, i, true);
        }
        book.draft(16, 16, 0).apply(0).looks(136, 0, 0, 32, 16, 0, 0, 0, 0, 2).count(1, 0).balance(2, 136);
        for (int i = 0; i < 16; i++) {
            book.amount(16 + i, 16 - i).output(i, 1, 0);
        }
    }

    private static void minus1IfItHasNone() {
        new Book(4).apply(-1).looks(0, 0, 0, 0, 0, 0, 0, 0, 0, 0);
        Book book = Book.of(1, 10).apply(-1).close(1).apply(-1);
        for (long mint : Edges.LONGS) {
            book.mint(mint).apply(-1).look(8, mint);
        }
        book.mint(0).spend(0, true).apply(10).apply(-1).make(1, 1, 0, true).mint(1).apply(0).apply(-1);
        book.spend(1, true).drop().apply(-1).make(1, 1, 0, true).drop().apply(-1);
        book.make(1, 1, 0, true).undo(0, 1).apply(-1);
    }

    private static void minus2IfTheFeeWouldBeBelow0() {
        new Book(4).make(1, 1, 0, true).apply(-2).mint(1).apply(0);
        new Book(4).make(1, 2, 0, true).mint(1).apply(-2).draft(0, 1, 1).mint(2).apply(0);
        Book.of(1, 10).spend(0, true).mint(-11).apply(-2).mint(-10).apply(0);
        Book.of(1, 10).spend(0, true).make(1, 11, 0, true).apply(-2).looks(10, 0, 0, 1, 1, 0, 1, 1, 0, 1)
                .mint(1).apply(0);
        Book.of(1, 10).spend(0, true).make(1, 9, 0, true).mint(-2).apply(-2).mint(-1).apply(0);
        // Each of them is covered, but not all together.
        Book.of(1, 10).spend(0, true).make(1, 6, 0, true).make(1, 5, 0, true).apply(-2);
        // One that is LIVE but not to be spent covers nothing, and neither does the POT.
        Book.of(1, 10, 90).spend(0, true).make(1, 11, 0, true).apply(-2);
        Book.of(1, 90, 10).spend(0, true).apply(90).spend(1, true).make(1, 11, 0, true).apply(-2);
        new Book(4).make(1, Long.MAX_VALUE, 0, true).apply(-2).mint(Edges.MOST).apply(-2);
        new Book(4).make(1, Edges.MOST, 0, true).mint(Edges.MOST - 1).apply(-2).mint(Edges.MOST).apply(0);
        Book wraps = Book.of(1, Edges.MOST).spend(0, true);
        for (int i = 0; i < 16; i++) {
            wraps.make(1, Edges.MOST, i, true);
        }
        wraps.apply(-2).looks(Edges.MOST, 0, 0, 1, 1, 0, 1, 16, 0, 1);
    }

    private static void minus2IfTheSupplyWouldBeBelow0() {
        new Book(4).make(1, 1, 0, true).mint(-1).apply(-2).mint(Long.MIN_VALUE).apply(-2);
        Book book = Book.of(1, 5).spend(0, true);
        for (long mint : new long[] {-6, -7, -Edges.MOST, Long.MIN_VALUE + 1, Long.MIN_VALUE}) {
            book.mint(mint).apply(-2).looks(5, 0, 0, 1, 1, 0, 1, 0, mint, 1);
        }
        book.mint(-5).apply(0).looks(0, 0, 0, 1, 0, 0, 0, 0, 0, 2);
        Book.of(1, 5).spend(0, true).mint(-4).apply(1).looks(1, 1);
        Book full = Book.of(1, Edges.MOST).spend(0, true).mint(-Edges.MOST - 1).apply(-2);
        full.mint(Long.MIN_VALUE).apply(-2).mint(-Edges.MOST).apply(0).looks(0, 0);
    }

    private static void minus2IfTheSupplyWouldBeAbove2To62() {
        Book book = new Book(4).make(1, 1, 0, true);
        for (long mint : new long[] {Edges.MOST + 1, Edges.MOST + 2, Long.MAX_VALUE - 1, Long.MAX_VALUE}) {
            book.mint(mint).apply(-2).looks(0, 0, 0, 0, 0, 0, 0, 1, mint, 0);
        }
        book.mint(Edges.MOST).apply(Edges.MOST - 1).looks(Edges.MOST, Edges.MOST - 1);
        book.make(1, 1, 0, true).mint(1).apply(-2).mint(Edges.MOST).apply(-2).mint(Long.MAX_VALUE).apply(-2);
        book.drop().spend(0, true).mint(1).apply(-2).mint(-1).apply(0).look(0, Edges.MOST - 1);
        book.make(1, 1, 0, true).mint(2).apply(-2).mint(1).apply(0).look(0, Edges.MOST);
        new Book(4).make(1, 1, 0, true).mint(Edges.MOST - 1).apply(Edges.MOST - 2).look(0, Edges.MOST - 1);
        // What was undone is no more in the SUPPLY.
        Book.of(1, Edges.MOST).undo(0, 0).minted(1, Edges.MOST).look(0, Edges.MOST);
    }

    private static void minus3IfMoreThan2048WouldBeMade() {
        fullBut(2, 3).apply(-3).looks(2046, 0, 0, 2046, 2046, 0, 0, 3, 3, 128);
        fullBut(2, 2).apply(0).looks(2048, 0, 0, 2048, 2048).row(2047, 1, 1, 0, -1, 1, 1);
        fullBut(2, 1).apply(0).look(3, 2047);
        fullBut(0, 1).apply(-3).look(3, 2048);
        fullBut(0, 16).apply(-3).look(3, 2048);
        // Spending makes no room, but none are made by it either.
        fullBut(0, 0).spend(2047, true).spend(0, true).apply(2).make(1, 1, 0, true).mint(1).apply(-3);
        fullBut(1, 1).spend(5, true).apply(1).look(3, 2048);
    }

    private static void theFirstOfThese() {
        fullBut(0, 0).apply(-1).mint(-1).apply(-1).mint(Long.MAX_VALUE).apply(-1);
        fullBut(0, 1).mint(0).apply(-2).mint(1).apply(-3);
        fullBut(0, 1).mint(Edges.MOST).apply(-2).mint(Edges.MOST - 2048).apply(-3);
        fullBut(0, 1).spend(0, true).mint(-1).apply(-2).mint(0).apply(-3);
        new Book(4).mint(Long.MIN_VALUE).apply(-1).mint(Long.MAX_VALUE).apply(-1);
    }

    /** A book where so many can be made yet, with some drafted and just covered. */
    private static Book fullBut(int room, int drafted) {
        Book book = Book.beyondItsCalls(4);
        for (int i = 0; i < 128; i++) {
            draft(book, i == 0 ? 16 - room : 16).apply(0);
        }
        return draft(book, drafted);
    }

    private static Book draft(Book book, int some) {
        for (int i = 0; i < some; i++) {
            book.make(1, 1, i, true);
        }
        return book.mint(some);
    }
}
