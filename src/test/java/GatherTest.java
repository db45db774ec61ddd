/** Promise 15: gather. */
public final class GatherTest {
    private static final long[] SIX = {10, 40, 20, 30, 40, 10};
    private static final long[] EIGHTEEN_ONES = {1, 1, 1, 1, 1, 1, 1, 1, 1, 1, 1, 1, 1, 1, 1, 1, 1, 1};

    public static void main(String[] args) {
        Check.line("`int gather(int owner, long amount)`:");
        Check.sentence("The fewest LIVE OUTPUTS of an OWNER", GatherTest::theFewestLiveOutputs);
        Check.sentence("the greatest AMOUNTS first", GatherTest::theGreatestFirst);
        Check.sentence("(of the same the least NUMBER)", GatherTest::ofTheSameTheLeastNumber);
        Check.sentence("that come to an amount together", GatherTest::thatComeToAnAmount);
        Check.sentence("go to the DRAFT in this order: how many", GatherTest::goToTheDraft);
        Check.sentence("NONE if they never do", GatherTest::noneIfTheyNeverDo);
        Check.sentence("the amount is below 1", GatherTest::noneIfTheAmountIsBelow1);
        Check.sentence("one of them is in the DRAFT", GatherTest::noneIfOneIsInTheDraft);
        Check.sentence("or it would have more than 16", GatherTest::noneIfItWouldHaveMoreThan16);
        Check.end();
    }

    /** Gathers of the six, looks who is spent by it, and undoes it. */
    private static void gathers(Book book, int owner, long amount, int... numbers) {
        book.gather(owner, amount, numbers.length).draft(numbers.length, 0, 0);
        for (int number : numbers) {
            book.output(number, 1, 1).spend(number, false);
        }
        long sum = 0;
        for (int number : numbers) {
            sum += SIX[number];
        }
        book.apply(sum);
        for (int number : numbers) {
            book.output(number, 1, 0);
        }
        book.undo(0, 1);
    }

    private static Book six() {
        return Book.of(5, SIX).close(1);
    }

    private static void theFewestLiveOutputs() {
        gathers(six(), 5, 1, 1);
        gathers(six(), 5, 39, 1);
        gathers(six(), 5, 40, 1);
        gathers(six(), 5, 41, 1, 4);
        gathers(six(), 5, 150, 1, 4, 3, 2, 0, 5);
        // Spent ones, those to be made and another's do not count.
        Book book = six().minted(6, 500).spend(1, true).apply(40).make(5, 900, 0, true);
        book.gather(5, 111, -1).gather(5, 40, 1).spend(4, false).look(6, 1).drop().gather(5, 110, 5);
        book.drop().gather(0, 1, -1).gather(4, 1, -1).gather(6, 500, 1).spend(6, false);
        book.undo(0, 1).gather(6, 1, -1).gather(5, 150, 6);
        Book.of(0, 5).gather(0, 5, 1);
        Book.of(255, 5).gather(255, 5, 1);
    }

    private static void theGreatestFirst() {
        Book book = six();
        gathers(book, 5, 80, 1, 4);
        gathers(book, 5, 81, 1, 4, 3);
        gathers(book, 5, 110, 1, 4, 3);
        gathers(book, 5, 111, 1, 4, 3, 2);
        // Though one of 10 would be enough, or two of 20 and 30 would be nearer.
        gathers(book, 5, 10, 1);
        gathers(book, 5, 50, 1, 4);
        Book.of(5, 1, 2, 3).gather(5, 3, 1).spend(2, false).spend(0, true).spend(1, true);
        Book.of(5, 3, 2, 1).gather(5, 4, 2).spend(0, false).spend(1, false).spend(2, true);
        Book.of(5, 1, Edges.MOST - 2, 1).gather(5, Edges.MOST - 1, 2).spend(1, false).spend(0, false).spend(2, true);
    }

    private static void ofTheSameTheLeastNumber() {
        Book book = six();
        gathers(book, 5, 40, 1);
        gathers(book, 5, 131, 1, 4, 3, 2, 0);
        gathers(book, 5, 140, 1, 4, 3, 2, 0);
        gathers(book, 5, 141, 1, 4, 3, 2, 0, 5);
        Book ones = Book.of(5, EIGHTEEN_ONES).gather(5, 3, 3);
        ones.spend(0, false).spend(1, false).spend(2, false).spend(3, true).spend(17, true);
        // The least NUMBER that is LIVE, and where one was undone the one that has its NUMBER now.
        ones.drop().spend(0, true).apply(1).gather(5, 1, 1).spend(1, false).spend(2, true);
        Book anew = Book.of(5, 9).close(1).minted(5, 9).undo(0, 1).minted(6, 9).minted(5, 9).spend(0, true).apply(9);
        anew.gather(5, 9, 1).spend(2, false).spend(1, true);
    }

    private static void thatComeToAnAmount() {
        for (long amount : new long[] {1, 2, 9, 10}) {
            Book.of(5, 10, 7).gather(5, amount, 1).look(6, 1).spend(1, true);
        }
        for (long amount : new long[] {11, 16, 17}) {
            Book.of(5, 10, 7).gather(5, amount, 2).look(6, 2);
        }
        Book.of(5, 10, 7).gather(5, 18, -1).look(6, 0);
        long half = Edges.MOST / 2;
        Book.of(5, half, half).gather(5, half, 1);
        Book.of(5, half, half).gather(5, half + 1, 2);
        Book.of(5, half, half).gather(5, Edges.MOST, 2);
        Book.of(5, half, half).gather(5, Edges.MOST + 1, -1);
        Book.of(5, Edges.MOST).gather(5, 1, 1);
        // What is in the DRAFT already is not counted.
        Book.of(5, 10, 7, 5).spend(2, true).gather(5, 17, 2).look(6, 3);
    }

    /** In which order they are there can't be seen; that all of them are, and count as the rest, can. */
    private static void goToTheDraft() {
        Book book = Book.of(5, 3, 9, 1, 7).spend(2, true).gather(5, 16, 2).draft(3, 0, 0);
        book.spend(1, false).spend(3, false).spend(2, false).count(5, 4).balance(5, 20).look(4, 4);
        book.spend(0, true).draft(4, 0, 0).make(6, 20, 0, true).apply(0).owns(5, 0).owns(6, 20, 4);
        book.gather(6, 1, 1).make(6, 1, 0, true).draft(1, 1, 0).drop().draft(0, 0, 0).gather(6, 20, 1);
        // Once more for another owner, into the same DRAFT.
        Book two = Book.of(5, 3, 9).minted(6, 4, 4).gather(5, 10, 2).gather(6, 4, 1).gather(6, 1, -1).draft(3, 0, 0);
        two.mint(2).close(1).draft(3, 0, 2).apply(18).owns(5, 0).owns(6, 4, 3);
    }

    private static void noneIfTheyNeverDo() {
        new Book(4).gather(0, 1, -1).draft(0, 0, 0);
        Book book = six();
        for (long amount : new long[] {151, 152, 4294967296L + 10, Edges.MOST, Long.MAX_VALUE - 1, Long.MAX_VALUE}) {
            book.gather(5, amount, -1).draft(0, 0, 0);
        }
        for (int owner : Edges.NO_OWNERS) {
            book.gather(owner, 1, -1).draft(0, 0, 0);
        }
        book.gather(4, 1, -1).gather(6, 1, -1).gather(0, 1, -1).gather(255, 1, -1);
        book.gather(5, 150, 6);
        // The sums of these would wrap around.
        Book full = Book.of(5, Edges.MOST / 2, Edges.MOST / 2).gather(5, Long.MAX_VALUE, -1);
        full.gather(5, Edges.MOST + 1, -1).spend(0, true).apply(Edges.MOST / 2).gather(5, Edges.MOST, -1);
    }

    private static void noneIfTheAmountIsBelow1() {
        Book book = six();
        for (long amount : Edges.NO_AMOUNTS) {
            book.gather(5, amount, -1).gather(4, amount, -1).gather(256, amount, -1).draft(0, 0, 0);
        }
        book.gather(5, 1, 1);
    }

    private static void noneIfOneIsInTheDraft() {
        six().spend(1, true).gather(5, 1, -1).draft(1, 0, 0).gather(5, 150, -1).draft(1, 0, 0);
        six().spend(4, true).gather(5, 41, -1).draft(1, 0, 0).gather(5, 40, 1).draft(2, 0, 0).spend(1, false);
        six().spend(5, true).gather(5, 141, -1).draft(1, 0, 0).gather(5, 140, 5).draft(6, 0, 0);
        six().gather(5, 40, 1).gather(5, 1, -1).draft(1, 0, 0).drop().gather(5, 1, 1);
        // What was taken for a while by the refused one can be spent.
        six().spend(2, true).gather(5, 130, -1).spend(1, true).spend(4, true).spend(3, true).draft(4, 0, 0).apply(130);
    }

    private static void noneIfItWouldHaveMoreThan16() {
        Book book = Book.of(5, EIGHTEEN_ONES);
        book.gather(5, 18, -1).gather(5, 17, -1).draft(0, 0, 0).gather(5, 16, 16).draft(16, 0, 0);
        book.gather(5, 1, -1).drop().gather(5, 15, 15).draft(15, 0, 0).drop();
        book.spend(17, true).gather(5, 16, -1).draft(1, 0, 0).gather(5, 15, 15).draft(16, 0, 0).drop();
        book.minted(6, 1, 1).gather(5, 15, 15).gather(6, 2, -1).draft(15, 0, 0).gather(6, 1, 1).gather(6, 1, -1).drop();
        // Those to make take no room of those to spend.
        for (int i = 0; i < 16; i++) {
            book.make(7, 1, 0, true);
        }
        book.gather(5, 16, 16).draft(16, 16, 0).apply(0).owns(5, 2, 16, 17).gather(5, 3, -1).gather(5, 2, 2);
    }
}
