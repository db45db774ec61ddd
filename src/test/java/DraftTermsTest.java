/** Terms: THE DRAFT, what to APPLY it does, and the SUPPLY. */
public final class DraftTermsTest {
    private static final long[] SEVENTEEN = {1, 1, 1, 1, 1, 1, 1, 1, 1, 1, 1, 1, 1, 1, 1, 1, 1};

    public static void main(String[] args) {
        Check.line("THE DRAFT, empty at first");
        Check.sentence("THE DRAFT, empty at first", DraftTermsTest::emptyAtFirst);
        Check.sentence("has up to 16 NUMBERS to spend", DraftTermsTest::upTo16NumbersToSpend);
        Check.sentence("of LIVE OUTPUTS", DraftTermsTest::ofLiveOutputs);
        Check.sentence("none twice", DraftTermsTest::noneTwice);
        Check.sentence("up to 16 OUTPUTS to make", DraftTermsTest::upTo16OutputsToMake);
        Check.sentence("and a MINT, a long", DraftTermsTest::aMintIsALong);
        Check.sentence("MINT, a long, 0 at first", DraftTermsTest::theMintIs0AtFirst);
        Check.sentence("(below 0: so much is burnt)", DraftTermsTest::below0SoMuchIsBurnt);
        Check.sentence("To APPLY it: its FEE is the AMOUNTS to spend and the MINT, less the AMOUNTS to make",
                DraftTermsTest::theFee);
        Check.sentence("if that is not below 0", DraftTermsTest::ifThatIsNotBelow0);
        Check.sentence("those to spend are no more LIVE", DraftTermsTest::thoseToSpendAreNoMoreLive);
        Check.sentence("those to make are made, in their order, and LIVE", DraftTermsTest::thoseToMakeAreMade);
        Check.sentence("the POT grows by the FEE", DraftTermsTest::thePotGrowsByTheFee);
        Check.sentence("the SUPPLY by the MINT", DraftTermsTest::theSupplyGrowsByTheMint);
        Check.sentence("the DRAFT is empty.", DraftTermsTest::theDraftIsEmptyThen);
        Check.sentence("The SUPPLY (0 at first)", DraftTermsTest::theSupplyIs0AtFirst);
        Check.sentence("is always all LIVE AMOUNTS and the POT together", DraftTermsTest::alwaysAllTogether);
        Check.sentence("and never above 2^62", DraftTermsTest::neverAbove2To62);
        Check.end();
    }

    private static void emptyAtFirst() {
        new Book(1).draft(0, 0, 0).apply(-1);
        new Book(1).close(1).draft(0, 0, 0).apply(-1);
    }

    private static void upTo16NumbersToSpend() {
        Book book = Book.of(1, SEVENTEEN).draft(0, 0, 0);
        for (int number = 0; number < 16; number++) {
            book.spend(number, true).look(6, number + 1);
        }
        book.spend(16, false).gather(1, 1, -1).spend(0, false).look(6, 16);
        book.apply(16).look(6, 0).owns(1, 1, 16).spend(16, true);
    }

    private static void ofLiveOutputs() {
        Book book = Book.of(1, 5, 6).close(1).spend(0, true).make(2, 5, 0, true);
        book.spend(2, false).look(6, 1).apply(0);
        book.spend(0, false).look(6, 0).spend(2, true).spend(1, true).look(6, 2);
        book.undo(0, 1).spend(2, false).spend(0, true).look(6, 1);
    }

    private static void noneTwice() {
        Book book = Book.of(1, 5, 6, 7);
        book.spend(0, true).spend(0, false).spend(2, true).spend(0, false).spend(2, false).look(6, 2);
        book.gather(1, 13, -1).gather(1, 7, -1).look(6, 2).apply(12).owns(1, 6, 1);
        book.gather(1, 6, 1).spend(1, false).gather(1, 6, -1).look(6, 1).apply(6).look(1, 18);
    }

    private static void upTo16OutputsToMake() {
        Book book = Book.of(1, 16);
        for (int i = 0; i < 16; i++) {
            book.look(7, i).make(i, 1, 100 + i, true);
        }
        book.make(16, 1, 116, false).make(0, 1, 100, false).look(7, 16).spend(0, true).apply(0);
        for (int i = 0; i < 16; i++) {
            book.row(1 + i, i, 1, 0, -1, 1, 100 + i);
        }
        book.look(7, 0).look(3, 17).make(16, 1, 116, true).look(7, 1);
    }

    private static void aMintIsALong() {
        Book book = new Book(4);
        for (long mint : Edges.LONGS) {
            book.mint(mint).look(8, mint);
        }
    }

    private static void theMintIs0AtFirst() {
        new Book(4).look(8, 0).make(1, 1, 0, true).look(8, 0).apply(-2);
        new Book(4).mint(9).make(1, 1, 0, true).apply(8).look(8, 0).make(1, 1, 0, true).apply(-2);
    }

    private static void below0SoMuchIsBurnt() {
        Book.of(1, 100).spend(0, true).make(1, 99, 0, true).mint(-1).apply(0).looks(99, 0);
        Book.of(1, 100).spend(0, true).make(1, 50, 0, true).mint(-49).apply(1).looks(51, 1);
        Book.of(1, 100).spend(0, true).mint(-99).apply(1).looks(1, 1);
        Book.of(1, 100).spend(0, true).mint(-100).apply(0).looks(0, 0);
        Book.of(1, 100).spend(0, true).mint(-101).apply(-2).looks(100, 0);
        Book.of(1, Edges.MOST).spend(0, true).mint(-Edges.MOST).apply(0).looks(0, 0);
        Book.of(1, Edges.MOST).spend(0, true).mint(-Edges.MOST - 1).apply(-2);
        Book.of(1, Edges.MOST).spend(0, true).mint(Long.MIN_VALUE).apply(-2);
        // What is in the POT, or not to be spent, can't be burnt.
        Book.of(1, 60, 40).spend(0, true).apply(60).spend(1, true).mint(-41).apply(-2).mint(-40).apply(0).looks(60, 60);
        Book.of(1, 60, 40).spend(1, true).mint(-41).apply(-2).mint(-40).apply(0).looks(60, 0);
    }

    private static void theFee() {
        Book.of(1, 10, 20, 30).spend(0, true).spend(2, true).apply(40);
        Book.of(1, 10, 20, 30).spend(0, true).spend(2, true).mint(5).apply(45);
        Book.of(1, 10, 20, 30).spend(0, true).spend(2, true).mint(5).make(2, 15, 0, true).make(2, 9, 0, true).apply(21);
        Book.of(1, 10, 20, 30).spend(1, true).mint(-5).make(2, 15, 0, true).apply(0);
        Book.of(1, 10).mint(7).make(2, 3, 0, true).apply(4);
        new Book(4).mint(Edges.MOST).make(1, 1, 0, true).apply(Edges.MOST - 1);
        Book.of(1, Edges.MOST).spend(0, true).apply(Edges.MOST);
        Book.of(1, Edges.MOST - 1).spend(0, true).mint(1).apply(Edges.MOST);
        Book.of(1, Edges.MOST).spend(0, true).make(1, Edges.MOST - 1, 0, true).apply(1);
    }

    private static void ifThatIsNotBelow0() {
        Book.of(1, 10).spend(0, true).make(1, 9, 0, true).apply(1);
        Book.of(1, 10).spend(0, true).make(1, 10, 0, true).apply(0);
        Book.of(1, 10).spend(0, true).make(1, 11, 0, true).apply(-2).looks(10, 0, 0, 1, 1, 0, 1, 1, 0, 1);
        Book.of(1, 10).spend(0, true).make(1, 11, 0, true).mint(1).apply(0);
        Book.of(1, 10).spend(0, true).make(1, 10, 0, true).mint(-1).apply(-2);
        Book.of(1, Edges.MOST).spend(0, true).make(1, Edges.MOST, 0, true).apply(0);
        Book.of(1, Edges.MOST).spend(0, true).make(1, Edges.MOST, 0, true).make(1, 1, 0, true).apply(-2);
        sumsThatWouldWrapAround();
    }

    /** Cut to a long, these FEES would not be below 0. */
    private static void sumsThatWouldWrapAround() {
        Book fourTimes = Book.of(1, Edges.MOST).spend(0, true);
        for (int i = 0; i < 4; i++) {
            fourTimes.make(1, Edges.MOST, 0, true);
        }
        fourTimes.apply(-2);
        Book sixteenTimes = new Book(4);
        for (int i = 0; i < 16; i++) {
            sixteenTimes.make(1, Long.MAX_VALUE, 0, true);
        }
        sixteenTimes.apply(-2).mint(-Edges.MOST).apply(-2).mint(Long.MIN_VALUE).apply(-2).mint(Edges.MOST).apply(-2);
        new Book(4).make(1, Long.MAX_VALUE, 0, true).make(1, Long.MAX_VALUE, 0, true).make(1, 2, 0, true).apply(-2);
        new Book(4).make(1, Long.MAX_VALUE, 0, true).mint(Long.MIN_VALUE).apply(-2);
        Book.of(1, 9).make(1, Long.MAX_VALUE, 0, true).mint(-2).apply(-2).mint(-3).apply(-2);
    }

    private static void thoseToSpendAreNoMoreLive() {
        Book book = Book.of(1, 10, 20, 30).close(1).spend(2, true).spend(0, true).apply(40);
        book.row(0, 1, 0, 0, 1, 10, 0).row(1, 1, 1, 0, -1, 20, 1).row(2, 1, 0, 0, 1, 30, 2);
        book.owns(1, 20, 1).look(4, 1).spend(0, false).spend(2, false).spend(1, true).apply(20);
        book.owns(1, 0).look(4, 0).spend(1, false);
        Book all = Book.of(1, SEVENTEEN);
        for (int number = 0; number < 16; number++) {
            all.spend(number, true);
        }
        all.apply(16).owns(1, 1, 16);
    }

    private static void thoseToMakeAreMade() {
        Book book = new Book(4).mint(100).make(9, 3, 33, true).make(8, 5, 55, true).make(9, 4, 44, true);
        book.look(3, 0).look(4, 0).apply(88).look(3, 3).look(4, 3);
        book.row(0, 9, 1, 0, -1, 3, 33).row(1, 8, 1, 0, -1, 5, 55).row(2, 9, 1, 0, -1, 4, 44);
        book.owns(9, 7, 0, 2).owns(8, 5, 1).spend(1, true).spend(2, true);
        Book.of(1, 10).spend(0, true).apply(10).look(3, 1).look(4, 0);
    }

    private static void thePotGrowsByTheFee() {
        Book book = Book.of(1, 10, 20, 30).look(1, 0).spend(0, true).apply(10).look(1, 10);
        book.spend(1, true).make(1, 19, 0, true).apply(1).look(1, 11);
        book.spend(2, true).make(1, 30, 0, true).apply(0).look(1, 11);
        book.mint(5).make(1, 6, 0, true).apply(-2).look(1, 11);
        Book.of(1, Edges.MOST).spend(0, true).apply(Edges.MOST).look(1, Edges.MOST);
    }

    private static void theSupplyGrowsByTheMint() {
        Book book = new Book(4).mint(10).make(1, 4, 0, true).look(0, 0).apply(6).look(0, 10);
        book.mint(1).make(1, 1, 0, true).apply(0).look(0, 11);
        book.spend(0, true).apply(4).look(0, 11);
        book.spend(1, true).mint(-1).apply(0).look(0, 10);
        book.mint(3).make(1, 4, 0, true).apply(-2).look(0, 10);
    }

    private static void theDraftIsEmptyThen() {
        Book book = Book.of(1, 10, 20).draft(0, 0, 0).apply(-1);
        book.spend(0, true).make(1, 3, 0, true).make(2, 4, 0, true).mint(2).draft(1, 2, 2);
        book.apply(5).draft(0, 0, 0).apply(-1).spend(1, true).apply(20);
        // What is not applied stays in the DRAFT.
        book.make(1, 3, 0, true).mint(2).apply(-2).draft(0, 1, 2).mint(3).apply(0).draft(0, 0, 0);
    }

    private static void theSupplyIs0AtFirst() {
        new Book(4).look(0, 0).mint(5).look(0, 0).make(1, 5, 0, true).look(0, 0).apply(0).look(0, 5);
    }

    private static void alwaysAllTogether() {
        Book book = new Book(4).balanced(1, 2);
        book.minted(1, 50, 60).balanced(1, 2).close(1).balanced(1, 2);
        book.spend(0, true).make(2, 30, 0, true).mint(7).balanced(1, 2).apply(27).balanced(1, 2);
        book.spend(2, true).make(1, 12, 0, true).mint(-11).apply(7).balanced(1, 2).close(2).balanced(1, 2);
        book.spend(1, true).make(1, 61, 0, true).apply(-2).balanced(1, 2);
        book.undo(0, 2).balanced(1, 2).spend(3, true).apply(12).balanced(1, 2);
        book.undo(1, 1).balanced(1, 2).look(0, 110);
        book.undo(1, 0).balanced(1, 2).look(0, 0);
        Book full = Book.of(1, Edges.MOST / 2, Edges.MOST / 2).balanced(1).spend(1, true).apply(Edges.MOST / 2);
        full.balanced(1).look(0, Edges.MOST);
    }

    private static void neverAbove2To62() {
        for (long mint : new long[] {Edges.MOST - 1, Edges.MOST}) {
            new Book(4).make(1, 1, 0, true).mint(mint).apply(mint - 1).look(0, mint);
        }
        for (long mint : new long[] {Edges.MOST + 1, Edges.MOST + 2, Long.MAX_VALUE - 1, Long.MAX_VALUE}) {
            new Book(4).make(1, 1, 0, true).mint(mint).apply(-2).look(0, 0);
        }
        Book book = Book.of(1, Edges.MOST - 2).mint(3).make(1, 1, 0, true).apply(-2);
        book.mint(2).apply(1).look(0, Edges.MOST).mint(1).make(1, 1, 0, true).apply(-2);
        // Not even where the same draft burns nothing and spends much.
        book.drop().spend(0, true).mint(1).apply(-2).mint(Edges.MOST).apply(-2).mint(Long.MAX_VALUE).apply(-2);
        book.mint(0).apply(Edges.MOST - 2).look(0, Edges.MOST);
    }
}
