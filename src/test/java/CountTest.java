/** Promise 13: count. */
public final class CountTest {
    public static void main(String[] args) {
        Check.line("`int count(int owner)`:");
        Check.sentence("How many LIVE OUTPUTS an OWNER has", CountTest::howManyLiveOutputs);
        Check.sentence("0 if there is no such OWNER", CountTest::zeroIfThereIsNoSuchOwner);
        Check.end();
    }

    private static void howManyLiveOutputs() {
        Book book = new Book(4).count(0, 0).count(255, 0).mint(15);
        book.make(0, 1, 0, true).make(255, 2, 0, true).make(0, 4, 0, true).make(254, 8, 0, true);
        book.count(0, 0).apply(0).count(0, 2).count(255, 1).count(254, 1).count(1, 0).count(253, 0).close(1);
        book.spend(0, true).count(0, 2).make(255, 1, 0, true).count(255, 1).apply(0).count(0, 1).count(255, 2);
        book.spend(2, true).apply(4).count(0, 0).undo(0, 1).count(0, 2).count(255, 1).undo(1, 0).count(0, 0);
        Book many = new Book(4);
        for (int i = 1; i <= 26; i++) {
            many.minted(5, 1, 1, 1, 1, 1, 1, 1, 1, 1, 1, 1, 1, 1, 1, 1, 1).count(5, 16 * i);
        }
    }

    private static void zeroIfThereIsNoSuchOwner() {
        Book book = new Book(4).minted(0, 10).minted(255, 20).minted(1, 30);
        for (int owner : Edges.NO_OWNERS) {
            new Book(4).count(owner, 0);
            book.count(owner, 0);
        }
        book.count(0, 1).count(255, 1).count(1, 1);
    }
}
