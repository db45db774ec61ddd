/** What it is: a ledger's life, told block by block, and led back. */
public final class LedgerTest {
    private static final int BLOCKS = 6;

    public static void main(String[] args) {
        Check.line("A book of the outputs of a ledger");
        Check.sentence("A book of the outputs of a ledger", LedgerTest::aBookOfOutputs);
        Check.sentence("transactions spend some and make others", LedgerTest::transactionsSpendAndMake);
        Check.sentence("block by block", LedgerTest::blockByBlock);
        Check.sentence("the last blocks can be undone", LedgerTest::theLastBlocksCanBeUndone);
        Check.sentence("and all is as it was ahead of them", LedgerTest::allIsAsItWas);
        Check.end();
    }

    private static void aBookOfOutputs() {
        Book book = Book.of(3, 70, 20).minted(4, 5);
        book.row(0, 3, 1, 0, -1, 70, 0).row(1, 3, 1, 0, -1, 20, 1).row(2, 4, 1, 0, -1, 5, 0).noRow(3);
        book.owns(3, 90, 0, 1).owns(4, 5, 2).looks(95, 0, 0, 3, 3, 0, 0, 0, 0, 2);
    }

    private static void transactionsSpendAndMake() {
        Book book = Book.of(3, 70, 20).spend(0, true).make(4, 60, 9, true).make(3, 8, 8, true).apply(2);
        book.row(0, 3, 0, 0, 0, 70, 0).row(2, 4, 1, 0, -1, 60, 9).row(3, 3, 1, 0, -1, 8, 8);
        // What was made by one can be spent by the next, in the same block.
        book.spend(2, true).spend(3, true).make(5, 68, 7, true).apply(0).owns(3, 20, 1).owns(4, 0).owns(5, 68, 4);
        book.looks(90, 2, 0, 5, 2, 0, 0, 0, 0, 3);
    }

    /** A coin of 100 that goes from owner to owner, one block each, and loses 1 on each way. */
    private static Book handedOn(int blocks) {
        Book book = new Book(3).minted(0, 100);
        for (int i = 1; i < blocks; i++) {
            book.close(i).spend(i - 1, true).make(i, 100 - i, i, true).apply(1);
        }
        return book;
    }

    /** All that is to be seen where so many blocks handed the coin on. */
    private static void isHandedOn(Book book, int blocks, int undoable) {
        book.looks(100, blocks - 1, blocks - 1, blocks, 1, undoable, 0, 0, 0, blocks);
        for (int i = 0; i < BLOCKS; i++) {
            if (i < blocks - 1) {
                book.row(i, i, 0, i, i + 1, 100 - i, i).owns(i, 0);
            } else if (i == blocks - 1) {
                book.row(i, i, 1, i, -1, 100 - i, i).owns(i, 100 - i, i);
            } else {
                book.noRow(i).owns(i, 0);
            }
        }
    }

    private static void blockByBlock() {
        for (int blocks = 1; blocks <= BLOCKS; blocks++) {
            isHandedOn(handedOn(blocks), blocks, Math.min(3, blocks - 1));
        }
    }

    private static void theLastBlocksCanBeUndone() {
        Book book = handedOn(BLOCKS).close(6);
        book.undo(4, -1).undo(3, 3).undo(1, -1).undo(0, 3);
        handedOn(BLOCKS).close(6).undo(1, 5).undo(1, 4).undo(1, 3).undo(1, -1);
    }

    private static void allIsAsItWas() {
        for (int n = 0; n <= 3; n++) {
            Book book = handedOn(BLOCKS).close(6).minted(9, 7).undo(n, 6 - n);
            book.look(2, 6 - n).look(5, 3 - n).owns(9, 0);
            // The height is one above the last block that is left: that one is closed.
            book.look(3, 6 - n).look(0, 100).look(1, 5 - n).owns(5 - n, 95 + n, 5 - n).look(9, 6 - n);
        }
        for (int n = 1; n <= 3; n++) {
            Book book = handedOn(BLOCKS).undo(n, 5 - n);
            // Handed on once more from there, it is as if it had never gone another way.
            book.spend(4 - n, true).make(5 - n, 95 + n, 5 - n, true).apply(1);
            isHandedOn(book, BLOCKS - n, 3 - n);
        }
    }
}
