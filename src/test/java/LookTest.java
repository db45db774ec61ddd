/** Promise 16: look. */
public final class LookTest {
    public static void main(String[] args) {
        OutputBook book = new OutputBook(2);
        book.mint(100);
        book.make(1, 30, 0);
        book.make(2, 40, 0);
        state("drafted", book, 0, 0, 0, 0, 0, 0, 0, 2, 100, 0);
        book.apply();
        state("applied", book, 100, 30, 0, 2, 2, 0, 0, 0, 0, 1);
        book.close();
        book.close();
        book.close();
        state("closed", book, 100, 30, 3, 2, 2, 2, 0, 0, 0, 1);
        book.spend(0);
        book.spend(1);
        book.make(1, 60, 0);
        book.mint(-9);
        state("drafted again", book, 100, 30, 3, 2, 2, 2, 2, 1, -9, 1);
        book.apply();
        state("applied again", book, 91, 31, 3, 3, 1, 2, 0, 0, 0, 2);
        book.undo(2);
        state("undone", book, 100, 30, 1, 2, 2, 0, 0, 0, 0, 1);
        noneForAnyOther(book);
        lookingChangesNothing(book);
        Check.end();
    }

    private static void state(String name, OutputBook book, long... due) {
        for (int which = 0; which < due.length; which++) {
            Check.due(name + ": look(" + which + ")", book.look(which), due[which]);
        }
    }

    private static void noneForAnyOther(OutputBook book) {
        int[] others = {-1, -2, 10, 11, Integer.MIN_VALUE, Integer.MAX_VALUE};
        for (int which : others) {
            Check.due("look(" + which + ")", book.look(which), -1);
        }
    }

    private static void lookingChangesNothing(OutputBook book) {
        state("once more", book, 100, 30, 1, 2, 2, 0, 0, 0, 0, 1);
    }
}
