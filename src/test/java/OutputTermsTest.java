/** Terms: what an OUTPUT is, and how they are numbered and counted. */
public final class OutputTermsTest {
    public static void main(String[] args) {
        Check.line("An OUTPUT has a NUMBER");
        Check.sentence("An OUTPUT has a NUMBER", OutputTermsTest::anOutputHasANumber);
        Check.sentence("an OWNER 0 .. 255", OutputTermsTest::anOwner0To255);
        Check.sentence("an AMOUNT, a long above 0", OutputTermsTest::anAmountAbove0);
        Check.sentence("and a TAG, a long.", OutputTermsTest::aTagIsALong);
        Check.sentence("Those that are there and not spent are LIVE", OutputTermsTest::thoseThereAndNotSpentAreLive);
        Check.sentence("NUMBERS are given in the order of making", OutputTermsTest::numbersInTheOrderOfMaking);
        Check.sentence("from 0 on", OutputTermsTest::numbersFrom0On);
        Check.sentence("behind an undoing they go on as if what was undone had not been",
                OutputTermsTest::behindAnUndoingNumbersGoOn);
        Check.sentence("At most 2048 are made", OutputTermsTest::atMost2048AreMade);
        Check.sentence("(as far as they are not undone)", OutputTermsTest::asFarAsTheyAreNotUndone);
        Check.end();
    }

    private static void anOutputHasANumber() {
        Book book = Book.of(1, 10, 20, 30);
        for (int number = 0; number < 3; number++) {
            book.row(number, 1, 1, 0, -1, 10 * (number + 1), number);
        }
        for (int number : Edges.noNumbers(3)) {
            book.noRow(number).spend(number, false);
        }
    }

    private static void anOwner0To255() {
        Book book = new Book(4);
        for (int owner : Edges.NO_OWNERS) {
            book.make(owner, 1, 0, false).balance(owner, 0).count(owner, 0).nth(owner, 0, -1).gather(owner, 1, -1);
        }
        eachOwnerHasItsOwn(0);
        eachOwnerHasItsOwn(128);
    }

    private static void eachOwnerHasItsOwn(int first) {
        Book book = new Book(4);
        long sum = 0;
        for (int i = 0; i < 128; i++) {
            book.make(first + i, 1 + i, 0, true);
            sum += 1 + i;
            if (i % 16 == 15) {
                book.mint(sum).apply(0);
                sum = 0;
            }
        }
        for (int i = 0; i < 128; i++) {
            book.output(i, 0, first + i).balance(first + i, 1 + i);
        }
    }

    private static void anAmountAbove0() {
        Book book = new Book(4);
        for (long amount : Edges.NO_AMOUNTS) {
            book.make(1, amount, 0, false);
        }
        long[] amounts = {1, 2, 1L << 31, 1L << 32, (1L << 53) + 1};
        long rest = Edges.MOST;
        for (long amount : amounts) {
            book.make(1, amount, 0, true);
            rest -= amount;
        }
        book.make(1, rest, 0, true).mint(Edges.MOST).apply(0);
        for (int i = 0; i < amounts.length; i++) {
            book.amount(i, amounts[i]);
        }
        book.amount(amounts.length, rest).balance(1, Edges.MOST);

        // Such ones can be drafted, but there is never so much to cover them.
        for (long amount : new long[] {Edges.MOST + 1, Long.MAX_VALUE - 1, Long.MAX_VALUE}) {
            new Book(4).make(1, amount, 0, true).look(7, 1).mint(amount).apply(-2);
        }
    }

    private static void aTagIsALong() {
        Book book = new Book(4).mint(100);
        for (long tag : Edges.LONGS) {
            book.make(1, 1, tag, true);
        }
        book.apply(100 - Edges.LONGS.length);
        for (int number = 0; number < Edges.LONGS.length; number++) {
            book.tag(number, Edges.LONGS[number]);
        }
    }

    private static void thoseThereAndNotSpentAreLive() {
        Book book = new Book(4).mint(10).make(1, 10, 0, true);
        book.output(0, 1, -1).look(4, 0).owns(1, 0).spend(0, false);
        book.apply(0).output(0, 1, 1).look(4, 1).owns(1, 10, 0);
        book.close(1).spend(0, true).output(0, 1, 1).look(4, 1).owns(1, 10, 0);
        book.apply(10).output(0, 1, 0).look(4, 0).owns(1, 0).spend(0, false).gather(1, 1, -1);
        book.undo(0, 1).output(0, 1, 1).look(4, 1).owns(1, 10, 0).spend(0, true);
        book.undo(1, 0).output(0, 1, -1).look(4, 0).owns(1, 0).spend(0, false);
    }

    private static void numbersInTheOrderOfMaking() {
        Book book = new Book(4).mint(9).make(3, 5, 1, true).make(2, 1, 2, true).make(3, 3, 3, true).apply(0);
        book.row(0, 3, 1, 0, -1, 5, 1).row(1, 2, 1, 0, -1, 1, 2).row(2, 3, 1, 0, -1, 3, 3);
        book.spend(2, true).spend(0, true).make(1, 6, 4, true).make(0, 2, 5, true).apply(0);
        book.row(3, 1, 1, 0, -1, 6, 4).row(4, 0, 1, 0, -1, 2, 5).row(0, 3, 0, 0, 0, 5, 1);
        book.close(1).spend(3, true).make(9, 6, 6, true).apply(0);
        book.row(5, 9, 1, 1, -1, 6, 6).look(3, 6).noRow(6);
    }

    private static void numbersFrom0On() {
        Book book = new Book(4).close(1).close(2);
        book.look(3, 0).noRow(0).noRow(-1);
        book.minted(7, 5).look(3, 1).row(0, 7, 1, 2, -1, 5, 0).noRow(-1).noRow(1);
        for (int number = 1; number < 40; number++) {
            book.mint(1).make(8, 1, number, true).apply(0).tag(number, number).look(3, number + 1);
        }
    }

    private static void behindAnUndoingNumbersGoOn() {
        Book book = Book.of(1, 10, 20).close(1).minted(2, 30, 40, 50).look(3, 5);
        book.undo(0, 1).look(3, 2).noRow(2).noRow(3).noRow(4);
        book.minted(3, 60).look(3, 3).row(2, 3, 1, 1, -1, 60, 0).noRow(3);
        book.close(2).spend(2, true).make(4, 60, 7, true).apply(0).row(3, 4, 1, 2, -1, 60, 7);
        book.undo(1, 1).look(3, 2).noRow(2).noRow(3);
        book.minted(5, 70).row(2, 5, 1, 1, -1, 70, 0).noRow(3);
        book.undo(1, 0).look(3, 0).noRow(0);
        book.minted(6, 80).look(3, 1).row(0, 6, 1, 0, -1, 80, 0).noRow(1);
    }

    private static void atMost2048AreMade() {
        // As many as 512 calls can make, each with all that it was given.
        Book most = new Book(4);
        for (int i = 0; i < 28; i++) {
            makeSome(most, 16);
        }
        most.look(3, 448).look(4, 448).noRow(448);

        Book book = fullBut(1).look(3, 2047).noRow(2047);
        draftSome(book, 2).apply(-3).look(3, 2047).drop();
        makeSome(book, 1).look(3, 2048).row(2047, 7, 1, 0, -1, 1, 0).noRow(2048);
        draftSome(book, 1).apply(-3).drop();
        draftSome(book, 16).apply(-3).look(3, 2048).look(7, 16);
        // Spent ones were made all the same.
        book.drop().spend(0, true).apply(1).look(3, 2048).look(4, 2047);
        draftSome(book, 1).apply(-3);
    }

    private static void asFarAsTheyAreNotUndone() {
        Book book = fullBut(3).close(1);
        makeSome(book, 3).look(3, 2048);
        draftSome(book, 1).apply(-3);
        book.undo(0, 1).look(3, 2045);
        makeSome(book, 2).close(2);
        makeSome(book, 1).look(3, 2048);
        draftSome(book, 1).apply(-3);
        book.undo(1, 1).look(3, 2045);
        draftSome(book, 4).apply(-3).drop();
        makeSome(book, 3).look(3, 2048);
        book.undo(1, 0).look(3, 0);
        makeSome(book, 16).look(3, 16);
    }

    /** A book where so many can be made yet. */
    private static Book fullBut(int room) {
        Book book = Book.beyondItsCalls(4);
        makeSome(book, 16 - room);
        for (int i = 0; i < 127; i++) {
            makeSome(book, 16);
        }
        return book;
    }

    private static Book makeSome(Book book, int some) {
        return draftSome(book, some).apply(0);
    }

    private static Book draftSome(Book book, int some) {
        for (int i = 0; i < some; i++) {
            book.make(7, 1, i, true);
        }
        return book.mint(some);
    }
}
