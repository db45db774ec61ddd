/** Promises 7 and 8: close and undo. */
public final class BlocksTest {
    public static void main(String[] args) {
        closeKeepsTheDraft();
        undoTakesBackTheOpenBlock();
        undoTakesBackClosedBlocks();
        undoRefusesAndChangesNothing();
        undoneBlocksCanBeBuiltAnew();
        howManyCanBeUndone();
        rowsOfOldBlocksAreUsedAgain();
        Check.end();
    }

    private static void state(String name, OutputBook book, long... due) {
        for (int which = 0; which < due.length; which++) {
            Check.due(name + ": look(" + which + ")", book.look(which), due[which]);
        }
    }

    private static void mintTo(OutputBook book, int owner, long amount, long fee) {
        book.mint(amount + fee);
        book.make(owner, amount, amount * 3);
        Check.due("apply()", book.apply(), fee);
    }

    private static void closeKeepsTheDraft() {
        OutputBook book = new OutputBook(3);
        mintTo(book, 1, 10, 1);
        book.spend(0);
        book.make(2, 4, 0);
        book.mint(-3);
        Check.due("close()", book.close(), 1);
        state("closed", book, 11, 1, 1, 1, 1, 1, 1, 1, -3, 1);
        Check.due("close() again", book.close(), 2);
        Check.due("the draft that stayed: apply()", book.apply(), 3);
        Check.due("output(1, 2)", book.output(1, 2), 2);
        Check.due("output(0, 3)", book.output(0, 3), 2);
    }

    private static void undoTakesBackTheOpenBlock() {
        OutputBook book = new OutputBook(3);
        mintTo(book, 1, 10, 1);
        mintTo(book, 1, 20, 2);
        Check.due("undo(0) at 0", book.undo(0), 0);
        state("at 0", book, 0, 0, 0, 0, 0, 0, 0, 0, 0, 0);
        mintTo(book, 1, 10, 1);
        book.close();
        book.spend(0);
        book.make(2, 9, 0);
        book.apply();
        book.spend(1);
        book.make(3, 9, 0);
        book.mint(6);
        Check.due("undo(0) at 1", book.undo(0), 1);
        state("at 1", book, 11, 1, 1, 1, 1, 1, 0, 0, 0, 1);
        Check.due("live again: output(0, 1)", book.output(0, 1), 1);
        Check.due("live again: output(0, 3)", book.output(0, 3), -1);
        Check.due("gone: output(1, 0)", book.output(1, 0), -1);
        Check.due("gone: amount(1)", book.amount(1), 0);
        Check.due("gone: tag(1)", book.tag(1), 0);
        Check.due("gone: balance(2)", book.balance(2), 0);
        Check.due("undo(0) once more", book.undo(0), 1);
        state("once more", book, 11, 1, 1, 1, 1, 1, 0, 0, 0, 1);
    }

    private static OutputBook bookOfFour() {
        OutputBook book = new OutputBook(4);
        mintTo(book, 1, 100, 1);
        book.close();
        mintTo(book, 2, 200, 2);
        book.spend(0);
        book.make(3, 90, 0);
        book.apply();
        book.close();
        book.spend(1);
        book.make(1, 150, 0);
        book.mint(-50);
        book.apply();
        book.close();
        mintTo(book, 1, 7, 0);
        book.spend(2);
        book.apply();
        return book;
    }

    private static void undoTakesBackClosedBlocks() {
        OutputBook book = bookOfFour();
        state("four", book, 260, 103, 3, 5, 2, 3, 0, 0, 0, 6);
        Check.due("undo(1)", book.undo(1), 2);
        state("undo(1)", book, 303, 13, 2, 3, 2, 2, 0, 0, 0, 3);
        Check.due("undo(1): output(0, 3)", book.output(0, 3), 1);
        Check.due("undo(1): output(1, 3)", book.output(1, 3), -1);
        Check.due("undo(1): output(2, 1)", book.output(2, 1), 1);
        Check.due("undo(1): balance(2)", book.balance(2), 200);
        Check.due("undo(1): count(1)", book.count(1), 0);

        book = bookOfFour();
        Check.due("undo(2)", book.undo(2), 1);
        state("undo(2)", book, 101, 1, 1, 1, 1, 1, 0, 0, 0, 1);
        Check.due("undo(2): nth(1, 0)", book.nth(1, 0), 0);
        Check.due("undo(2): tag(0)", book.tag(0), 300);

        book = bookOfFour();
        Check.due("undo(3)", book.undo(3), 0);
        state("undo(3)", book, 0, 0, 0, 0, 0, 0, 0, 0, 0, 0);
        Check.due("undo(3): output(0, 1)", book.output(0, 1), -1);
    }

    private static void undoRefusesAndChangesNothing() {
        OutputBook book = bookOfFour();
        book.spend(3);
        book.make(1, 5, 0);
        book.mint(44);
        int[] wrong = {-1, 4, 5, Integer.MIN_VALUE, Integer.MAX_VALUE};
        for (int n : wrong) {
            Check.due("undo(" + n + ")", book.undo(n), -1);
            state("undo(" + n + ")", book, 260, 103, 3, 5, 2, 3, 1, 1, 44, 6);
        }
        Check.due("the draft is as it was: apply()", book.apply(), 189);
    }

    private static void undoneBlocksCanBeBuiltAnew() {
        OutputBook book = bookOfFour();
        book.undo(2);
        mintTo(book, 9, 11, 4);
        Check.due("numbers go on: output(1, 0)", book.output(1, 0), 9);
        Check.due("numbers go on: amount(1)", book.amount(1), 11);
        Check.due("numbers go on: tag(1)", book.tag(1), 33);
        Check.due("numbers go on: output(1, 1)", book.output(1, 1), 1);
        Check.due("numbers go on: output(1, 2)", book.output(1, 2), 1);
        Check.due("numbers go on: output(1, 3)", book.output(1, 3), -1);
        Check.due("close()", book.close(), 2);
        book.spend(1);
        book.apply();
        Check.due("undo(1) of the new ones", book.undo(1), 1);
        state("of the new ones", book, 101, 1, 1, 1, 1, 1, 0, 0, 0, 1);
    }

    private static void howManyCanBeUndone() {
        OutputBook book = new OutputBook(3);
        for (int height = 1; height <= 5; height++) {
            Check.due("close()", book.close(), height);
        }
        Check.due("up to depth: look(5)", book.look(5), 3);
        Check.due("undo(2)", book.undo(2), 3);
        Check.due("2 less: look(5)", book.look(5), 1);
        Check.due("close()", book.close(), 4);
        Check.due("1 more: look(5)", book.look(5), 2);
        Check.due("undo(3)", book.undo(3), -1);
        Check.due("undo(2)", book.undo(2), 2);
        Check.due("none left: look(5)", book.look(5), 0);
        Check.due("undo(1)", book.undo(1), -1);
        Check.due("undo(0)", book.undo(0), 2);
    }

    /** Every depth, with more blocks than that, gone back by every step that there is. */
    private static void rowsOfOldBlocksAreUsedAgain() {
        for (int depth = 1; depth <= 64; depth += 7) {
            for (int n = 0; n <= depth; n += 3) {
                OutputBook book = new OutputBook(depth);
                for (int height = 0; height < 100; height++) {
                    mintTo(book, 1, 1, 2);
                    book.close();
                }
                String name = "depth " + depth + ", undo(" + n + ")";
                Check.due(name, book.undo(n), 100 - n);
                long left = 100 - n;
                state(name, book, 3 * left, 2 * left, left, left, left, depth - n, 0, 0, 0, left);
            }
        }
    }
}
