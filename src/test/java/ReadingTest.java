/** Promises 9 to 11: output, amount and tag. */
public final class ReadingTest {
    private static final int[] NO_NUMBERS = {-1, 2, 3, 2047, 2048, Integer.MIN_VALUE, Integer.MAX_VALUE};

    public static void main(String[] args) {
        OutputBook book = new OutputBook(2);
        book.close();
        book.mint(30);
        book.make(255, 10, -5);
        book.make(0, 20, 6);
        noneWhileDraftedOnly(book);
        book.apply();
        book.close();
        book.close();
        book.spend(0);
        liveUntilItIsApplied(book);
        book.apply();
        book.close();
        spentOnesStayThere(book);
        noneForWrongNumbersAndWhats(book);
        Check.end();
    }

    private static void row(String name, OutputBook book, int number, long... due) {
        for (int what = 0; what <= 3; what++) {
            Check.due(name + ": output(" + number + ", " + what + ")", book.output(number, what), due[what]);
        }
        Check.due(name + ": amount(" + number + ")", book.amount(number), due[4]);
        Check.due(name + ": tag(" + number + ")", book.tag(number), due[5]);
    }

    private static void noneWhileDraftedOnly(OutputBook book) {
        row("drafted only", book, 0, -1, -1, -1, -1, 0, 0);
    }

    private static void liveUntilItIsApplied(OutputBook book) {
        row("live", book, 0, 255, 1, 1, -1, 10, -5);
        row("live", book, 1, 0, 1, 1, -1, 20, 6);
    }

    private static void spentOnesStayThere(OutputBook book) {
        row("spent", book, 0, 255, 0, 1, 3, 10, -5);
        row("not spent", book, 1, 0, 1, 1, -1, 20, 6);
    }

    private static void noneForWrongNumbersAndWhats(OutputBook book) {
        for (int number : NO_NUMBERS) {
            row("none such", book, number, -1, -1, -1, -1, 0, 0);
        }
        int[] whats = {-1, 4, 5, Integer.MIN_VALUE, Integer.MAX_VALUE};
        for (int what : whats) {
            Check.due("output(0, " + what + ")", book.output(0, what), -1);
            Check.due("output(1, " + what + ")", book.output(1, what), -1);
        }
    }
}
