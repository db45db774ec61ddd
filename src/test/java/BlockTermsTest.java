/** Terms: BLOCKS, to CLOSE and to UNDO. */
public final class BlockTermsTest {
    public static void main(String[] args) {
        Check.line("BLOCKS: what is APPLIED");
        Check.sentence("BLOCKS: what is APPLIED goes to the OPEN one", BlockTermsTest::whatIsAppliedGoesToTheOpenOne);
        Check.sentence("to CLOSE it makes HEIGHT (0 at first) 1 more", BlockTermsTest::toCloseMakesHeight1More);
        Check.sentence("and another one, without anything, is OPEN", BlockTermsTest::anotherOneWithoutAnything);
        Check.sentence("To UNDO n blocks takes back all that the OPEN one", BlockTermsTest::takesBackTheOpenOne);
        Check.sentence("and the n last closed ones did", BlockTermsTest::takesBackTheLastClosedOnes);
        Check.sentence("HEIGHT is n less", BlockTermsTest::heightIsNLess);
        Check.sentence("the one that is OPEN has nothing", BlockTermsTest::theOneThatIsOpenHasNothing);
        Check.sentence("How many closed ones can be undone is 0 at first", BlockTermsTest::howManyIs0AtFirst);
        Check.sentence("to CLOSE makes it 1 more", BlockTermsTest::toCloseMakesIt1More);
        Check.sentence("up to DEPTH", BlockTermsTest::upToDepth);
        Check.sentence("to UNDO n makes it n less", BlockTermsTest::toUndoMakesItNLess);
        Check.end();
    }

    /** Blocks 0, 1 and 2 are closed, and 3 is OPEN; each of the last ones spends one of another. */
    private static Book fourBlocks() {
        Book book = new Book(4).mint(101).make(1, 100, 5, true).apply(1).close(1);
        book.mint(202).make(2, 200, 6, true).apply(2).spend(0, true).make(3, 90, 7, true).apply(10).close(2);
        book.spend(1, true).make(1, 150, 8, true).mint(-50).apply(0).close(3);
        return book.spend(2, true).make(4, 60, 9, true).apply(30).looks(253, 43, 3, 5, 2, 3, 0, 0, 0, 5);
    }

    private static void asBehindTheFirst(Book book) {
        book.row(0, 1, 1, 0, -1, 100, 5).noRow(1).noRow(2);
        book.owns(1, 100, 0).owns(2, 0).owns(3, 0).looks(101, 1, 1, 1, 1, 1, 0, 0, 0, 1);
    }

    private static void asBehindTheSecond(Book book) {
        book.row(0, 1, 0, 0, 1, 100, 5).row(1, 2, 1, 1, -1, 200, 6).row(2, 3, 1, 1, -1, 90, 7).noRow(3);
        book.owns(1, 0).owns(2, 200, 1).owns(3, 90, 2).looks(303, 13, 2, 3, 2, 2, 0, 0, 0, 3);
    }

    private static void asBehindTheThird(Book book) {
        book.row(0, 1, 0, 0, 1, 100, 5).row(1, 2, 0, 1, 2, 200, 6).row(2, 3, 1, 1, -1, 90, 7);
        book.row(3, 1, 1, 2, -1, 150, 8).noRow(4);
        book.owns(1, 150, 3).owns(2, 0).owns(3, 90, 2).owns(4, 0).looks(253, 13, 3, 4, 2, 3, 0, 0, 0, 4);
    }

    private static void whatIsAppliedGoesToTheOpenOne() {
        Book book = Book.of(1, 10).output(0, 2, 0).close(1).minted(1, 20).output(1, 2, 1).output(0, 2, 0);
        book.spend(0, true).apply(10).output(0, 3, 1).close(2).spend(1, true).apply(20).output(1, 3, 2);
        book.undo(0, 2).output(1, 3, -1).output(0, 3, 1).undo(1, 1).output(0, 3, -1).noRow(1);
        // Two of the same block go together, and a DRAFT goes where it is applied, not where it was begun.
        Book.of(1, 10).minted(1, 20).close(1).undo(1, 0).look(3, 0).look(9, 0);
        Book.of(1, 10).mint(5).make(2, 5, 0, true).close(1).apply(0).output(1, 2, 1).undo(0, 1).look(3, 1);
    }

    private static void toCloseMakesHeight1More() {
        Book book = new Book(1).look(2, 0);
        for (int height = 1; height <= 200; height++) {
            book.close(height).look(2, height);
        }
        Book.of(1, 10).look(2, 0).close(1).minted(1, 20).look(2, 1).close(2).look(2, 2);
    }

    private static void anotherOneWithoutAnything() {
        Book book = Book.of(1, 10).spend(0, true).apply(10).minted(2, 5).close(1);
        book.looks(15, 10, 1, 2, 1, 1, 0, 0, 0, 3).row(0, 1, 0, 0, 0, 10, 0).row(1, 2, 1, 0, -1, 5, 0);
        // There is nothing in it to be taken back.
        book.undo(0, 1).looks(15, 10, 1, 2, 1, 1, 0, 0, 0, 3).row(0, 1, 0, 0, 0, 10, 0).row(1, 2, 1, 0, -1, 5, 0);
        book.close(2).undo(1, 1).looks(15, 10, 1, 2, 1, 1, 0, 0, 0, 3);
    }

    private static void takesBackTheOpenOne() {
        Book.of(1, 10).minted(2, 20).spend(0, true).apply(10).undo(0, 0).looks(0, 0, 0, 0, 0, 0, 0, 0, 0, 0).noRow(0);
        asBehindTheThird(fourBlocks().undo(0, 3));
        asBehindTheThird(fourBlocks().undo(0, 3).undo(0, 3));
        // One that was made and spent in it is gone.
        Book.of(1, 10).close(1).minted(2, 20).spend(1, true).apply(20).undo(0, 1).noRow(1).looks(10, 0, 1, 1, 1, 1);
    }

    private static void takesBackTheLastClosedOnes() {
        asBehindTheSecond(fourBlocks().undo(1, 2));
        asBehindTheFirst(fourBlocks().undo(2, 1));
        fourBlocks().undo(3, 0).looks(0, 0, 0, 0, 0, 0, 0, 0, 0, 0).noRow(0).owns(1, 0);
        asBehindTheFirst(fourBlocks().undo(1, 2).undo(1, 1));
        asBehindTheFirst(fourBlocks().undo(1, 2).minted(9, 7).close(3).undo(2, 1));
        for (int depth : new int[] {1, 2, 3, 31, 63, 64}) {
            for (int n : new int[] {0, 1, depth / 2, depth - 1, depth}) {
                longRunGoesBack(depth, n);
            }
        }
    }

    /** With more blocks than DEPTH, so that whatever is kept of each is written over again and again. */
    private static void longRunGoesBack(int depth, int n) {
        Book book = new Book(depth);
        for (int height = 0; height < 100; height++) {
            book.mint(3).make(1, 1, height, true).apply(2).close(height + 1);
        }
        long left = 100 - n;
        book.undo(n, 100 - n).looks(3 * left, 2 * left, left, left, left, depth - n, 0, 0, 0, left);
        book.tag(99 - n, 99 - n).noRow(100 - n);
    }

    private static void heightIsNLess() {
        for (int n = 0; n <= 4; n++) {
            Book book = new Book(4).close(1).close(2).close(3).close(4).close(5);
            book.undo(n, 5 - n).look(2, 5 - n).close(6 - n).look(2, 6 - n);
        }
        Book deep = new Book(64);
        for (int height = 1; height <= 64; height++) {
            deep.close(height);
        }
        deep.undo(64, 0).look(2, 0).close(1);
    }

    private static void theOneThatIsOpenHasNothing() {
        asBehindTheSecond(fourBlocks().undo(1, 2).undo(0, 2));
        asBehindTheFirst(fourBlocks().undo(2, 1).undo(0, 1));
        asBehindTheFirst(fourBlocks().undo(2, 1).close(2).undo(1, 1));
        // What it gets is all that it has.
        asBehindTheFirst(fourBlocks().undo(2, 1).minted(9, 7).undo(0, 1));
    }

    private static void howManyIs0AtFirst() {
        for (int depth : new int[] {Integer.MIN_VALUE, 1, 64, Integer.MAX_VALUE}) {
            new Book(depth).look(5, 0).undo(1, -1).undo(0, 0).look(5, 0);
            new Book(depth).minted(1, 10).look(5, 0).undo(1, -1);
        }
    }

    private static void toCloseMakesIt1More() {
        Book book = new Book(64);
        for (int closed = 1; closed <= 63; closed++) {
            book.close(closed).look(5, closed);
        }
        Book.of(1, 10).close(1).look(5, 1).undo(2, -1).undo(1, 0);
    }

    private static void upToDepth() {
        for (int depth : new int[] {1, 2, 3, 63, 64}) {
            Book book = new Book(depth);
            for (int closed = 1; closed <= depth + 70; closed++) {
                book.close(closed).look(5, Math.min(closed, depth));
            }
            book.undo(depth + 1, -1).look(5, depth).undo(depth, 70).look(5, 0).undo(1, -1).undo(0, 70);
        }
    }

    private static void toUndoMakesItNLess() {
        Book book = new Book(5);
        for (int height = 1; height <= 9; height++) {
            book.close(height);
        }
        book.look(5, 5).undo(0, 9).look(5, 5).undo(1, 8).look(5, 4).undo(3, 5).look(5, 1);
        book.undo(2, -1).look(5, 1).close(6).look(5, 2).undo(2, 4).look(5, 0).undo(1, -1).look(5, 0);
        book.close(5).look(5, 1).undo(1, 4).look(5, 0);
    }
}
