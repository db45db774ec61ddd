/** Promises 2 to 5: what goes to the draft, and how it is emptied. */
public final class DraftTest {
    private static final long MOST = 1L << 62;

    public static void main(String[] args) {
        spendTakesLiveOnesOnce();
        spendRefusesWhatIsNotThere();
        spendTakesSixteen();
        makeRefusesWrongOwnersAndAmounts();
        makeTakesSixteen();
        makeKeepsWhatItWasGiven();
        mintIsTheLastOneGiven();
        dropEmptiesTheDraftAlone();
        Check.end();
    }

    private static OutputBook bookOf(int outputs) {
        OutputBook book = new OutputBook(4);
        for (int i = 0; i < outputs; i++) {
            if (i % 16 == 0) {
                book.apply();
                book.mint(160);
            }
            book.make(1, 10, i);
        }
        book.apply();
        return book;
    }

    private static void spendTakesLiveOnesOnce() {
        OutputBook book = bookOf(3);
        Check.due("spend(2)", book.spend(2), true);
        Check.due("spend(0)", book.spend(0), true);
        Check.due("spend(2) again", book.spend(2), false);
        Check.due("spend(0) again", book.spend(0), false);
        Check.due("two to spend: look(6)", book.look(6), 2);
        Check.due("drafted only: live", book.output(2, 1), 1);
        Check.due("drafted only: look(4)", book.look(4), 3);
        Check.due("apply()", book.apply(), 20);
        Check.due("spent: spend(2)", book.spend(2), false);
        Check.due("live: spend(1)", book.spend(1), true);
        book.undo(0);
        Check.due("undone in the making: spend(1)", book.spend(1), false);
    }

    private static void spendRefusesWhatIsNotThere() {
        OutputBook book = bookOf(3);
        int[] none = {-1, 3, 4, 2047, 2048, Integer.MAX_VALUE, Integer.MIN_VALUE};
        for (int number : none) {
            Check.due("spend(" + number + ")", book.spend(number), false);
        }
        book.mint(5);
        book.make(1, 5, 0);
        Check.due("drafted to be made: spend(3)", book.spend(3), false);
        Check.due("look(6)", book.look(6), 0);
        book.apply();
        Check.due("made by now: spend(3)", book.spend(3), true);
        book.close();
        Check.due("over a close: spend(3)", book.spend(3), false);
        book.drop();
        Check.due("after a drop: spend(3)", book.spend(3), true);
    }

    private static void spendTakesSixteen() {
        OutputBook book = bookOf(18);
        for (int number = 17; number > 1; number--) {
            Check.due("of sixteen: spend(" + number + ")", book.spend(number), true);
        }
        Check.due("a 17th: spend(1)", book.spend(1), false);
        Check.due("a 17th: look(6)", book.look(6), 16);
        Check.due("beside sixteen to spend: make", book.make(2, 160, 0), true);
        Check.due("sixteen: apply()", book.apply(), 0);
        Check.due("emptied: look(6)", book.look(6), 0);
        Check.due("emptied: spend(1)", book.spend(1), true);
    }

    private static void makeRefusesWrongOwnersAndAmounts() {
        OutputBook book = new OutputBook(4);
        int[] owners = {-1, 256, Integer.MIN_VALUE, Integer.MAX_VALUE};
        for (int owner : owners) {
            Check.due("make(" + owner + ", 1, 0)", book.make(owner, 1, 0), false);
        }
        long[] amounts = {0, -1, Long.MIN_VALUE};
        for (long amount : amounts) {
            Check.due("make(0, " + amount + ", 0)", book.make(0, amount, 0), false);
        }
        Check.due("refused: look(7)", book.look(7), 0);
        Check.due("make(0, 1, 0)", book.make(0, 1, 0), true);
        Check.due("make(255, max, min)", book.make(255, Long.MAX_VALUE, Long.MIN_VALUE), true);
        Check.due("taken: look(7)", book.look(7), 2);
        Check.due("drafted only: look(3)", book.look(3), 0);
        Check.due("drafted only: count(0)", book.count(0), 0);
    }

    private static void makeTakesSixteen() {
        OutputBook book = bookOf(1);
        for (int i = 0; i < 16; i++) {
            Check.due("of sixteen: make", book.make(i, 1, 0), true);
            Check.due("of sixteen: look(7)", book.look(7), i + 1);
        }
        Check.due("a 17th: make", book.make(0, 1, 0), false);
        Check.due("a 17th: look(7)", book.look(7), 16);
        Check.due("beside sixteen to make: spend(0)", book.spend(0), true);
        book.mint(6);
        Check.due("sixteen: apply()", book.apply(), 0);
        Check.due("emptied: make", book.make(0, 1, 0), true);
    }

    private static void makeKeepsWhatItWasGiven() {
        OutputBook book = new OutputBook(4);
        book.mint(MOST);
        book.make(255, 7, Long.MIN_VALUE);
        book.make(0, MOST - 8, Long.MAX_VALUE);
        book.make(0, 1, 0);
        Check.due("apply()", book.apply(), 0);
        Check.due("output(0, 0)", book.output(0, 0), 255);
        Check.due("output(1, 0)", book.output(1, 0), 0);
        Check.due("amount(0)", book.amount(0), 7);
        Check.due("amount(1)", book.amount(1), MOST - 8);
        Check.due("amount(2)", book.amount(2), 1);
        Check.due("tag(0)", book.tag(0), Long.MIN_VALUE);
        Check.due("tag(1)", book.tag(1), Long.MAX_VALUE);
        Check.due("tag(2)", book.tag(2), 0);
    }

    private static void mintIsTheLastOneGiven() {
        OutputBook book = new OutputBook(4);
        long[] mints = {Long.MIN_VALUE, Long.MAX_VALUE, -1, 0, 30, 12};
        for (long mint : mints) {
            book.mint(mint);
            Check.due("mint(" + mint + "): look(8)", book.look(8), mint);
            Check.due("mint alone: look(0)", book.look(0), 0);
            Check.due("mint alone: apply()", book.apply(), -1);
            Check.due("not applied: look(8)", book.look(8), mint);
        }
        book.make(1, 10, 0);
        Check.due("the last mint: apply()", book.apply(), 2);
        Check.due("the last mint: look(0)", book.look(0), 12);
        Check.due("applied: look(8)", book.look(8), 0);
    }

    private static void dropEmptiesTheDraftAlone() {
        OutputBook book = bookOf(2);
        book.close();
        book.spend(1);
        book.make(3, 1, 0);
        book.mint(-7);
        book.drop();
        Check.due("dropped: look(6)", book.look(6), 0);
        Check.due("dropped: look(7)", book.look(7), 0);
        Check.due("dropped: look(8)", book.look(8), 0);
        Check.due("dropped: apply()", book.apply(), -1);
        Check.due("dropped: look(0)", book.look(0), 160);
        Check.due("dropped: look(1)", book.look(1), 140);
        Check.due("dropped: look(2)", book.look(2), 1);
        Check.due("dropped: look(4)", book.look(4), 2);
        Check.due("dropped: look(5)", book.look(5), 1);
        Check.due("dropped: look(9)", book.look(9), 1);
        Check.due("dropped: spend(1)", book.spend(1), true);
    }
}
