/** Terms: the constants. */
public final class ConstantsTest {
    public static void main(String[] args) {
        Check.line("The constants:");
        Check.sentence("The constants: `NONE = -1`", ConstantsTest::noneIsMinus1);
        Check.sentence("There is none.", ConstantsTest::thereIsNone);
        Check.end();
    }

    private static void noneIsMinus1() {
        Check.due("NONE", OutputBook.NONE, -1);
    }

    private static void thereIsNone() {
        OutputBook book = new OutputBook(1);
        Check.due("output(0, 0)", book.output(0, 0), OutputBook.NONE);
        Check.due("nth(0, 0)", book.nth(0, 0), OutputBook.NONE);
        Check.due("gather(0, 1)", book.gather(0, 1), OutputBook.NONE);
        Check.due("undo(1)", book.undo(1), OutputBook.NONE);
        Check.due("look(10)", book.look(10), OutputBook.NONE);
        book.mint(1);
        book.make(0, 1, 0);
        book.apply();
        Check.due("of a LIVE one: output(0, 3)", book.output(0, 3), OutputBook.NONE);
        Check.due("output(0, 4)", book.output(0, 4), OutputBook.NONE);
    }
}
