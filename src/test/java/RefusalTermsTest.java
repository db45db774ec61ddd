import java.util.function.Supplier;

/** Terms: what is refused changes nothing, and nothing throws. */
public final class RefusalTermsTest {
    private static final long[] SEVENTEEN = {9, 9, 8, 7, 7, 6, 5, 4, 3, 3, 3, 2, 2, 1, 1, 1, 1};

    public static void main(String[] args) {
        Check.line("What answers false, NONE or below 0");
        Check.sentence("What answers false", RefusalTermsTest::whatAnswersFalse);
        Check.sentence("NONE", RefusalTermsTest::whatAnswersNone);
        Check.sentence("or below 0", RefusalTermsTest::whatAnswersBelow0);
        Check.sentence("or throws", RefusalTermsTest::nothingThrows);
        Check.sentence("changes nothing", RefusalTermsTest::aRunOfRefusalsChangesNothing);
        Check.end();
    }

    /** Something of everything: closed blocks, an OPEN one with something in it, and a DRAFT. */
    private static Book rich() {
        Book book = new Book(2).mint(100).make(0, 40, -1, true).make(255, 50, 1, true).apply(10).close(1);
        book.spend(0, true).make(1, 30, 2, true).make(1, 5, 3, true).apply(5).close(2);
        book.mint(20).make(1, 20, 4, true).apply(0).spend(1, true).make(0, 45, 5, true).apply(5).close(3);
        book.spend(2, true).make(9, 28, 6, true).mint(-1).apply(1);
        return book.spend(4, true).make(3, 50, 7, true).mint(5).looks(119, 21, 3, 7, 4, 2, 1, 1, 5, 5);
    }

    private static Book fullDraft() {
        Book book = Book.of(1, SEVENTEEN).close(1);
        for (int i = 0; i < 16; i++) {
            book.spend(i, true).make(2, 1, i, true);
        }
        return book.draft(16, 16, 0);
    }

    /** The refused calls themselves hold the state against a twin's; see Book. */
    private static void whatAnswersFalse() {
        Book book = rich();
        for (int number : Edges.noNumbers(7)) {
            book.spend(number, false);
        }
        book.spend(0, false).spend(1, false).spend(2, false).spend(4, false);
        for (int owner : Edges.NO_OWNERS) {
            book.make(owner, 1, 8, false);
        }
        for (long amount : Edges.NO_AMOUNTS) {
            book.make(4, amount, 8, false);
        }
        book.looks(119, 21, 3, 7, 4, 2, 1, 1, 5, 5).mint(30).apply(0).row(7, 3, 1, 3, -1, 50, 7);
        fullDraft().spend(16, false).make(2, 1, 16, false).draft(16, 16, 0).apply(55);
    }

    private static void whatAnswersNone() {
        Book book = rich();
        for (int n : Edges.INTS_BELOW_0) {
            book.undo(n, -1);
        }
        book.undo(3, -1).undo(4, -1).undo(64, -1).undo(Integer.MAX_VALUE - 1, -1).undo(Integer.MAX_VALUE, -1);
        for (int owner : Edges.NO_OWNERS) {
            book.gather(owner, 1, -1);
        }
        for (long amount : Edges.NO_AMOUNTS) {
            book.gather(1, amount, -1);
        }
        book.gather(1, 21, -1).gather(1, 1, -1).gather(0, 46, -1).gather(0, Long.MAX_VALUE, -1).gather(2, 1, -1);
        book.looks(119, 21, 3, 7, 4, 2, 1, 1, 5, 5).mint(30).apply(0).row(4, 1, 0, 2, 3, 20, 4);
        fullDraft().gather(1, 1, -1).draft(16, 16, 0).apply(55);
    }

    private static void whatAnswersBelow0() {
        new Book(1).apply(-1).looks(0, 0, 0, 0, 0, 0, 0, 0, 0, 0);
        rich().drop().apply(-1).mint(7).apply(-1).looks(119, 21, 3, 7, 4, 2, 0, 0, 7, 5);
        Book book = rich().apply(-2);
        for (long mint : new long[] {Long.MIN_VALUE, -120, -21, 0, 29, Edges.MOST, Long.MAX_VALUE}) {
            book.mint(mint).apply(-2).looks(119, 21, 3, 7, 4, 2, 1, 1, mint, 5);
        }
        book.mint(30).apply(0).looks(149, 21, 3, 8, 4, 2, 0, 0, 0, 6);
    }

    private static void aRunOfRefusalsChangesNothing() {
        Book book = rich();
        for (int i = 0; i < 5; i++) {
            book.spend(-1, false).spend(4, false).make(256, 1, 0, false).make(1, 0, 0, false).apply(-2);
            book.undo(-1, -1).undo(3, -1).gather(1, 1, -1).gather(1, 0, -1).gather(256, 1, -1);
            book.output(7, 0, -1).output(0, 4, -1).amount(7, 0).tag(-1, 0).balance(-1, 0).count(256, 0);
            book.nth(1, 9, -1).look(10, -1).looks(119, 21, 3, 7, 4, 2, 1, 1, 5, 5);
        }
        book.mint(30).apply(0).undo(0, 3).looks(120, 20, 3, 6, 4, 2, 0, 0, 0, 4);
        book.undo(2, 1).looks(100, 10, 1, 2, 2, 0, 0, 0, 0, 1);
    }

    /** The document names no exception, so that no arguments in no state may bring one. */
    private static void nothingThrows() {
        takesEverything(() -> new OutputBook(0));
        takesEverything(RefusalTermsTest::withABitOfAll);
        takesEverything(RefusalTermsTest::withAFullDraft);
        takesEverything(RefusalTermsTest::withAFullSupply);
    }

    private static OutputBook withABitOfAll() {
        OutputBook book = new OutputBook(2);
        for (int i = 0; i < 5; i++) {
            book.mint(10);
            book.make(i, 3, i);
            book.make(255, 4, i);
            book.apply();
            book.close();
            book.spend(i);
        }
        return book;
    }

    private static OutputBook withAFullDraft() {
        OutputBook book = new OutputBook(64);
        for (int i = 0; i < 17; i++) {
            book.mint(2);
            book.make(1, 1, i);
            book.apply();
            book.close();
        }
        for (int i = 0; i < 16; i++) {
            book.spend(i);
            book.make(1, Long.MAX_VALUE, i);
        }
        return book;
    }

    private static OutputBook withAFullSupply() {
        OutputBook book = new OutputBook(1);
        book.mint(Edges.MOST);
        book.make(255, Edges.MOST - 1, Long.MIN_VALUE);
        book.apply();
        book.spend(0);
        return book;
    }

    private static void takesEverything(Supplier<OutputBook> state) {
        for (int one : Edges.INTS) {
            OutputBook book = state.get();
            book.spend(one);
            book.amount(one);
            book.tag(one);
            book.balance(one);
            book.count(one);
            book.look(one);
            for (int other : Edges.INTS) {
                book.output(one, other);
                book.nth(one, other);
            }
            for (long amount : Edges.LONGS) {
                book.gather(one, amount);
                book.make(one, amount, amount);
            }
            book.apply();
            book.undo(one);
            Check.due("is there yet: look(-1)", book.look(-1), -1);
        }
        for (long mint : Edges.LONGS) {
            OutputBook book = state.get();
            book.mint(mint);
            book.apply();
            book.close();
            book.make(1, 1, 1);
            book.mint(mint);
            book.apply();
            book.undo(1);
            book.drop();
            Check.due("nothing drafted: apply()", book.apply(), -1);
        }
    }
}
