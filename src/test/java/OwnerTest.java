/** Promises 12 to 14: balance, count and nth. */
public final class OwnerTest {
    private static final int[] NO_OWNERS = {-1, 256, 257, Integer.MIN_VALUE, Integer.MAX_VALUE};

    public static void main(String[] args) {
        OutputBook book = new OutputBook(2);
        book.mint(1000);
        int[] owners = {7, 0, 7, 255, 7, 0};
        for (int i = 0; i < owners.length; i++) {
            book.make(owners[i], 100 - 10 * i, 0);
        }
        owner("drafted only", book, 7, 0);
        book.apply();
        owner("made", book, 7, 240, 0, 2, 4);
        owner("made", book, 0, 140, 1, 5);
        owner("made", book, 255, 70, 3);
        owner("made", book, 8, 0);
        book.spend(2);
        owner("to be spent", book, 7, 240, 0, 2, 4);
        book.close();
        book.make(7, 1, 0);
        book.apply();
        owner("spent and one more", book, 7, 161, 0, 4, 6);
        book.undo(0);
        owner("undone", book, 7, 240, 0, 2, 4);
        for (int owner : NO_OWNERS) {
            owner("no such owner", book, owner, 0);
        }
        allThatThereCanBe();
        Check.end();
    }

    private static void owner(String name, OutputBook book, int owner, long balance, int... numbers) {
        Check.due(name + ": balance(" + owner + ")", book.balance(owner), balance);
        Check.due(name + ": count(" + owner + ")", book.count(owner), numbers.length);
        for (int i = 0; i < numbers.length; i++) {
            Check.due(name + ": nth(" + owner + ", " + i + ")", book.nth(owner, i), numbers[i]);
        }
        int[] none = {-1, numbers.length, numbers.length + 1, Integer.MIN_VALUE, Integer.MAX_VALUE};
        for (int i : none) {
            Check.due(name + ": nth(" + owner + ", " + i + ")", book.nth(owner, i), -1);
        }
    }

    private static void allThatThereCanBe() {
        OutputBook book = new OutputBook(2);
        book.mint(1L << 62);
        for (int i = 0; i < 16; i++) {
            book.make(1, 1L << 58, 0);
        }
        Check.due("apply()", book.apply(), 0);
        Check.due("balance(1)", book.balance(1), 1L << 62);
    }
}
