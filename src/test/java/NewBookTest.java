/** Promise 1: a new object. */
public final class NewBookTest {
    public static void main(String[] args) {
        nothingIsThere();
        depthCountsAsTheNearest(Integer.MIN_VALUE, 1);
        depthCountsAsTheNearest(-1, 1);
        depthCountsAsTheNearest(0, 1);
        depthCountsAsTheNearest(1, 1);
        depthCountsAsTheNearest(2, 2);
        depthCountsAsTheNearest(63, 63);
        depthCountsAsTheNearest(64, 64);
        depthCountsAsTheNearest(65, 64);
        depthCountsAsTheNearest(Integer.MAX_VALUE, 64);
        booksShareNothing();
        Check.due("NONE", OutputBook.NONE, -1);
        Check.end();
    }

    private static void nothingIsThere() {
        OutputBook book = new OutputBook(3);
        for (int which = 0; which <= 9; which++) {
            Check.due("new: look(" + which + ")", book.look(which), 0);
        }
        for (int owner = 0; owner < 256; owner += 51) {
            Check.due("new: balance(" + owner + ")", book.balance(owner), 0);
            Check.due("new: count(" + owner + ")", book.count(owner), 0);
            Check.due("new: nth(" + owner + ", 0)", book.nth(owner, 0), -1);
            Check.due("new: gather(" + owner + ", 1)", book.gather(owner, 1), -1);
        }
        for (int what = 0; what <= 3; what++) {
            Check.due("new: output(0, " + what + ")", book.output(0, what), -1);
        }
        Check.due("new: amount(0)", book.amount(0), 0);
        Check.due("new: tag(0)", book.tag(0), 0);
        Check.due("new: spend(0)", book.spend(0), false);
        Check.due("new: apply()", book.apply(), -1);
        Check.due("new: undo(0)", book.undo(0), 0);
        Check.due("new: undo(1)", book.undo(1), -1);
    }

    private static void depthCountsAsTheNearest(int depth, int nearest) {
        String name = "depth " + depth + ": ";
        OutputBook book = new OutputBook(depth);
        for (int closed = 1; closed <= 70; closed++) {
            book.close();
            Check.due(name + "look(5)", book.look(5), Math.min(closed, nearest));
        }
        Check.due(name + "undo(" + (nearest + 1) + ")", book.undo(nearest + 1), -1);
        Check.due(name + "undo(" + nearest + ")", book.undo(nearest), 70 - nearest);
    }

    private static void booksShareNothing() {
        OutputBook one = new OutputBook(2);
        OutputBook other = new OutputBook(2);
        one.mint(9);
        one.make(1, 4, 0);
        one.apply();
        one.close();
        one.mint(3);
        for (int which = 0; which <= 9; which++) {
            Check.due("another book: look(" + which + ")", other.look(which), 0);
        }
        Check.due("another book: balance(1)", other.balance(1), 0);
    }
}
