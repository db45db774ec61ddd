/** What it is: how far an object can be led within its 512 calls, and that it stands beyond them. */
public final class CallsTest {
    private static final int CALLS = 512;
    private static final int FAR_BEYOND = 20000;

    public static void main(String[] args) {
        Check.line("An object is used for at most 512 calls");
        Check.sentence("An object is used for at most 512 calls after it has been made", CallsTest::at512Calls);
        Check.sentence("what later calls answer is free", CallsTest::laterCallsDoNotThrow);
        Check.end();
    }

    private static void at512Calls() {
        mostOutputs();
        mostTransactions();
        mostBlocks();
        mostUndoings();
    }

    /** A full draft is 16 calls to make, one to mint and one to apply: 28 of them are 504. */
    private static void mostOutputs() {
        OutputBook book = new OutputBook(64);
        for (int i = 0; i < 28; i++) {
            for (int j = 0; j < 16; j++) {
                Check.due("make", book.make(255, 1 + j, i * 16 + j), true);
            }
            book.mint(136);
            Check.due("apply()", book.apply(), 0);
        }
        Check.due("call 505: look(0)", book.look(0), 28 * 136);
        Check.due("call 506: look(3)", book.look(3), 448);
        Check.due("call 507: balance(255)", book.balance(255), 28 * 136);
        Check.due("call 508: nth(255, 447)", book.nth(255, 447), 447);
        Check.due("call 509: tag(447)", book.tag(447), 447);
        Check.due("call 510: gather(255, 256)", book.gather(255, 256), 16);
        Check.due("call 511: spend(0)", book.spend(0), false);
        Check.due("call 512: apply()", book.apply(), 256);
    }

    /** One that makes is 3 calls, and one that only spends is 2: 102 of each are 510. */
    private static void mostTransactions() {
        OutputBook book = new OutputBook(1);
        long amount = Edges.MOST / 102;
        for (int i = 0; i < 102; i++) {
            book.make(i, amount, -i);
            book.mint(amount);
            Check.due("apply()", book.apply(), 0);
            Check.due("spend(" + i + ")", book.spend(i), true);
            Check.due("apply()", book.apply(), amount);
        }
        Check.due("call 511: look(9)", book.look(9), 204);
        Check.due("call 512: look(1)", book.look(1), amount * 102);
    }

    private static void mostBlocks() {
        OutputBook book = new OutputBook(64);
        for (int i = 1; i <= CALLS - 3; i++) {
            Check.due("close()", book.close(), i);
        }
        Check.due("call 510: undo(65)", book.undo(65), -1);
        Check.due("call 511: undo(64)", book.undo(64), CALLS - 3 - 64);
        Check.due("call 512: look(5)", book.look(5), 0);
    }

    private static void mostUndoings() {
        OutputBook book = new OutputBook(64);
        for (int i = 0; i < 85; i++) {
            book.make(i, 5, i);
            book.mint(7);
            Check.due("apply()", book.apply(), 2);
            Check.due("close()", book.close(), 1);
            Check.due("undo(1)", book.undo(1), 0);
            Check.due("look(3)", book.look(3), 0);
        }
        Check.due("call 511: look(0)", book.look(0), 0);
        Check.due("call 512: amount(0)", book.amount(0), 0);
    }

    /** Free is what they answer; that they answer at all is a rule of the language. */
    private static void laterCallsDoNotThrow() {
        for (int depth : new int[] {1, 2, 64}) {
            OutputBook book = new OutputBook(depth);
            for (int i = 0; i < FAR_BEYOND; i++) {
                anyCall(book, i * 7 + i / 11, Edges.INTS[i % Edges.INTS.length], Edges.LONGS[i % Edges.LONGS.length]);
            }
            Check.due("nothing thrown with the depth " + depth, true, true);
        }
    }

    private static void anyCall(OutputBook book, int kind, int any, long anyLong) {
        switch (kind % 18) {
            case 0 -> book.spend(any);
            case 1 -> book.make(any, anyLong, anyLong);
            case 2 -> book.mint(anyLong);
            case 3 -> book.apply();
            case 4, 5 -> book.close();
            case 6 -> book.undo(any);
            case 7 -> book.output(any, kind % 5);
            case 8 -> book.amount(any);
            case 9 -> book.tag(any);
            case 10 -> book.balance(any);
            case 11 -> book.count(any);
            case 12 -> book.nth(kind % 300, any);
            case 13 -> book.gather(kind % 300, anyLong);
            case 14 -> book.look(any);
            case 15 -> book.make(kind % 256, 1 + kind % 9, any);
            case 16 -> book.mint(100);
            default -> book.spend(kind % 3000);
        }
    }
}
