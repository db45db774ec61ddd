/** Promise 15: gather. */
public final class GatherTest {
    private static final long MOST = 1L << 62;

    public static void main(String[] args) {
        theGreatestGoFirst();
        ofTheSameTheLeastNumber();
        theyGoToTheDraftInThisOrder();
        onlyLiveOnesOfTheOwner();
        noneForWrongArguments();
        noneIfOneIsInTheDraft();
        noneIfTheDraftHasNoRoom();
        amountsAtTheBounds();
        Check.end();
    }

    private static OutputBook bookOf(int owner, long... amounts) {
        OutputBook book = new OutputBook(4);
        for (int i = 0; i < amounts.length; i++) {
            book.mint(book.look(8) + amounts[i]);
            book.make(owner, amounts[i], i);
            if (i % 16 == 15) {
                book.apply();
            }
        }
        book.apply();
        return book;
    }

    /** Which ones were gathered is seen by who is no more live behind an apply. */
    private static void gathered(String name, OutputBook book, int owner, long amount, int... numbers) {
        String call = name + ": gather(" + owner + ", " + amount + ")";
        Check.due(call, book.gather(owner, amount), numbers.length);
        Check.due(call + ": look(6)", book.look(6), numbers.length);
        long live = book.look(4);
        book.apply();
        Check.due(call + ": spent ones", live - book.look(4), numbers.length);
        for (int number : numbers) {
            Check.due(call + ": output(" + number + ", 1)", book.output(number, 1), 0);
        }
        book.undo(0);
    }

    private static void theGreatestGoFirst() {
        OutputBook book = bookOf(5, 10, 40, 20, 30);
        book.close();
        long[] asked = {1, 40, 41, 70, 71, 90, 91, 100};
        int[][] due = {{1}, {1}, {1, 3}, {1, 3}, {1, 3, 2}, {1, 3, 2}, {1, 3, 2, 0}, {1, 3, 2, 0}};
        for (int i = 0; i < asked.length; i++) {
            gathered("greatest first", book, 5, asked[i], due[i]);
        }
        Check.due("more than there is: gather", book.gather(5, 101), -1);
        Check.due("more than there is: look(6)", book.look(6), 0);
    }

    private static void ofTheSameTheLeastNumber() {
        OutputBook book = bookOf(5, 3, 8, 8, 3, 8);
        book.close();
        int[][] due = {{1}, {1, 2}, {1, 2, 4}, {1, 2, 4, 0}, {1, 2, 4, 0, 3}};
        long[] asked = {8, 9, 24, 27, 30};
        for (int i = 0; i < asked.length; i++) {
            gathered("of the same", book, 5, asked[i], due[i]);
        }
    }

    /** The order in the draft is not seen through the face, but what is in it is. */
    private static void theyGoToTheDraftInThisOrder() {
        OutputBook book = bookOf(5, 3, 9, 1, 7);
        Check.due("spend(2)", book.spend(2), true);
        Check.due("beside another: gather(5, 16)", book.gather(5, 16), 2);
        Check.due("look(6)", book.look(6), 3);
        Check.due("gathered: spend(1)", book.spend(1), false);
        Check.due("gathered: spend(3)", book.spend(3), false);
        Check.due("not gathered: spend(0)", book.spend(0), true);
        Check.due("still live: count(5)", book.count(5), 4);
        book.make(6, 20, 0);
        Check.due("apply()", book.apply(), 0);
        Check.due("all spent: count(5)", book.count(5), 0);
        Check.due("all spent: gather(5, 1)", book.gather(5, 1), -1);
        Check.due("another's: gather(6, 1)", book.gather(6, 1), 1);
    }

    private static void onlyLiveOnesOfTheOwner() {
        OutputBook book = new OutputBook(4);
        book.mint(1000);
        book.make(1, 50, 0);
        book.make(2, 90, 0);
        book.make(1, 60, 0);
        book.make(1, 40, 0);
        book.apply();
        book.spend(2);
        book.apply();
        book.close();
        book.make(1, 500, 0);
        Check.due("drafted and spent ones don't count: gather", book.gather(1, 91), -1);
        book.drop();
        gathered("live ones", book, 1, 90, 0, 3);
    }

    private static void noneForWrongArguments() {
        OutputBook book = bookOf(0, 5, 6);
        long[] amounts = {0, -1, Long.MIN_VALUE, 12, Long.MAX_VALUE};
        for (long amount : amounts) {
            Check.due("gather(0, " + amount + ")", book.gather(0, amount), -1);
        }
        int[] owners = {-1, 1, 255, 256, Integer.MIN_VALUE, Integer.MAX_VALUE};
        for (int owner : owners) {
            Check.due("gather(" + owner + ", 1)", book.gather(owner, 1), -1);
        }
        Check.due("look(6)", book.look(6), 0);
        Check.due("gather(0, 11)", book.gather(0, 11), 2);
    }

    private static void noneIfOneIsInTheDraft() {
        OutputBook book = bookOf(5, 10, 40, 20);
        book.spend(2);
        Check.due("not needed: gather(5, 40)", book.gather(5, 40), 1);
        book.drop();
        book.spend(2);
        Check.due("the second one: gather(5, 41)", book.gather(5, 41), -1);
        Check.due("the second one: look(6)", book.look(6), 1);
        Check.due("nothing was taken: spend(1)", book.spend(1), true);
        Check.due("the first one: gather(5, 1)", book.gather(5, 1), -1);
        Check.due("look(6)", book.look(6), 2);
    }

    private static void noneIfTheDraftHasNoRoom() {
        long[] ones = new long[18];
        java.util.Arrays.fill(ones, 1);
        OutputBook book = bookOf(5, ones);
        Check.due("count(5)", book.count(5), 18);
        Check.due("17 of them: gather", book.gather(5, 17), -1);
        Check.due("17 of them: look(6)", book.look(6), 0);
        Check.due("16 of them: gather", book.gather(5, 16), 16);
        Check.due("16 of them: look(6)", book.look(6), 16);
        Check.due("a full draft: gather", book.gather(5, 1), -1);
        book.drop();
        book.spend(17);
        Check.due("16 beside one: gather", book.gather(5, 16), -1);
        Check.due("16 beside one: look(6)", book.look(6), 1);
        Check.due("15 beside one: gather", book.gather(5, 15), 15);
        Check.due("15 beside one: look(6)", book.look(6), 16);
        Check.due("15 beside one: apply()", book.apply(), 16);
        Check.due("those left: nth(5, 0)", book.nth(5, 0), 15);
        Check.due("those left: nth(5, 1)", book.nth(5, 1), 16);
        for (int i = 0; i < 16; i++) {
            book.make(6, 1, 0);
        }
        Check.due("outputs to make take no room: gather", book.gather(5, 2), 2);
    }

    private static void amountsAtTheBounds() {
        OutputBook book = bookOf(5, MOST / 2, MOST / 2);
        Check.due("gather(5, 2^62 + 1)", book.gather(5, MOST + 1), -1);
        Check.due("gather(5, greatest)", book.gather(5, Long.MAX_VALUE), -1);
        Check.due("gather(5, 2^62)", book.gather(5, MOST), 2);
    }
}
