import java.util.Arrays;

/** Promise 12: balance. */
public final class BalanceTest {
    public static void main(String[] args) {
        Check.line("`long balance(int owner)`:");
        Check.sentence("All LIVE AMOUNTS of an OWNER", BalanceTest::allLiveAmountsOfAnOwner);
        Check.sentence("0 if there is no such OWNER", BalanceTest::zeroIfThereIsNoSuchOwner);
        Check.end();
    }

    private static void allLiveAmountsOfAnOwner() {
        Book book = new Book(4).balance(0, 0).balance(255, 0).mint(151).make(1, 1, 0, true);
        book.make(0, 10, 0, true).make(255, 20, 0, true).make(0, 40, 0, true).make(254, 80, 0, true);
        book.balance(0, 0).apply(0);
        book.balance(0, 50).balance(255, 20).balance(254, 80).balance(1, 1).balance(2, 0).balance(253, 0).close(1);
        book.spend(1, true).balance(0, 50).make(255, 7, 0, true).balance(255, 20).apply(3);
        book.balance(0, 40).balance(255, 27).spend(3, true).apply(40).balance(0, 0);
        book.undo(0, 1).balance(0, 50).balance(255, 20).undo(1, 0).balance(0, 0).balance(254, 0);
        fullOnes();
    }

    private static void fullOnes() {
        Book.of(0, Edges.MOST).balance(0, Edges.MOST).spend(0, true).apply(Edges.MOST).balance(0, 0);
        Book.of(255, Edges.MOST - 1, 1).balance(255, Edges.MOST).spend(1, true).apply(1).balance(255, Edges.MOST - 1);
        long[] sixteenth = new long[16];
        Arrays.fill(sixteenth, Edges.MOST / 16);
        Book.of(9, sixteenth).balance(9, Edges.MOST);
        Book many = new Book(4);
        for (int i = 0; i < 28; i++) {
            many.minted(5, 1, 1, 1, 1, 1, 1, 1, 1, 1, 1, 1, 1, 1, 1, 1, 1);
        }
        many.balance(5, 448);
    }

    private static void zeroIfThereIsNoSuchOwner() {
        Book book = new Book(4).minted(0, 10).minted(255, 20).minted(1, 30);
        for (int owner : Edges.NO_OWNERS) {
            new Book(4).balance(owner, 0);
            book.balance(owner, 0);
        }
        book.balance(0, 10).balance(255, 20).balance(1, 30);
    }
}
