import java.util.ArrayList;
import java.util.List;

/**
 * A book under test. Each call is held against the answer that is due; and where that is a refusal,
 * twins that are led the same way, one with the refused call and one without, must look the same.
 */
final class Book {
    private static final int CALLS = 512;

    private final int depth;
    private final boolean beyondItsCalls;
    private final OutputBook book;
    private final List<Twins.Step> steps = new ArrayList<>();
    private int calls = 0;

    Book(int depth) {
        this(depth, false);
    }

    private Book(int depth, boolean beyondItsCalls) {
        this.depth = depth;
        this.beyondItsCalls = beyondItsCalls;
        book = new OutputBook(depth);
    }

    /**
     * The document answers for 512 calls, in which 2048 OUTPUTS can't be made; what is to be seen of
     * that bound is seen beyond them.
     */
    static Book beyondItsCalls(int depth) {
        return new Book(depth, true);
    }

    /** One OUTPUT of the owner for each amount, all minted, with the NUMBER as its TAG. */
    static Book of(int owner, long... amounts) {
        return new Book(4).minted(owner, amounts);
    }

    Book minted(int owner, long... amounts) {
        long sum = 0;
        for (int i = 0; i < amounts.length; i++) {
            make(owner, amounts[i], i, true);
            sum += amounts[i];
            if (i % 16 == 15 || i == amounts.length - 1) {
                mint(sum).apply(0);
                sum = 0;
            }
        }
        return this;
    }

    Book spend(int number, boolean due) {
        return change("spend(" + number + ")", due ? 1 : 0, !due, book -> book.spend(number) ? 1 : 0);
    }

    Book make(int owner, long amount, long tag, boolean due) {
        String text = "make(" + owner + ", " + amount + ", " + tag + ")";
        return change(text, due ? 1 : 0, !due, book -> book.make(owner, amount, tag) ? 1 : 0);
    }

    Book mint(long amount) {
        return change("mint(" + amount + ")", 0, false, book -> {
            book.mint(amount);
            return 0;
        });
    }

    Book drop() {
        return change("drop()", 0, false, book -> {
            book.drop();
            return 0;
        });
    }

    Book apply(long due) {
        return change("apply()", due, due < 0, OutputBook::apply);
    }

    Book close(int due) {
        return change("close()", due, false, OutputBook::close);
    }

    Book undo(int n, int due) {
        return change("undo(" + n + ")", due, due < 0, book -> book.undo(n));
    }

    Book gather(int owner, long amount, int due) {
        return change("gather(" + owner + ", " + amount + ")", due, due < 0, book -> book.gather(owner, amount));
    }

    Book output(int number, int what, int due) {
        return read("output(" + number + ", " + what + ")", due, book.output(number, what));
    }

    Book amount(int number, long due) {
        return read("amount(" + number + ")", due, book.amount(number));
    }

    Book tag(int number, long due) {
        return read("tag(" + number + ")", due, book.tag(number));
    }

    Book balance(int owner, long due) {
        return read("balance(" + owner + ")", due, book.balance(owner));
    }

    Book count(int owner, int due) {
        return read("count(" + owner + ")", due, book.count(owner));
    }

    Book nth(int owner, int i, int due) {
        return read("nth(" + owner + ", " + i + ")", due, book.nth(owner, i));
    }

    Book look(int which, long due) {
        return read("look(" + which + ")", due, book.look(which));
    }

    /** What look answers for 0, 1, 2 and so on. */
    Book looks(long... due) {
        for (int which = 0; which < due.length; which++) {
            look(which, due[which]);
        }
        return this;
    }

    Book draft(int toSpend, int toMake, long mint) {
        return look(6, toSpend).look(7, toMake).look(8, mint);
    }

    Book row(int number, int owner, int live, int madeAt, int spentAt, long amount, long tag) {
        return output(number, 0, owner).output(number, 1, live).output(number, 2, madeAt)
                .output(number, 3, spentAt).amount(number, amount).tag(number, tag);
    }

    Book noRow(int number) {
        return row(number, -1, -1, -1, -1, 0, 0);
    }

    /** The owner's balance, and all its LIVE ones. */
    Book owns(int owner, long balance, int... numbers) {
        balance(owner, balance).count(owner, numbers.length);
        for (int i = 0; i < numbers.length; i++) {
            nth(owner, i, numbers[i]);
        }
        return nth(owner, numbers.length, -1);
    }

    /** The SUPPLY is what these owners have and the POT; they must be all that have something. */
    Book balanced(int... owners) {
        long sum = book.look(1);
        for (int owner : owners) {
            sum += book.balance(owner);
        }
        calls += 1 + owners.length;
        return look(0, sum);
    }

    private Book change(String text, long due, boolean refused, Twins.Call call) {
        Twins.Step step = new Twins.Step(text, call);
        answered(text, call.on(book), due);
        if (refused) {
            Twins.lookTheSame(depth, steps, step);
        } else {
            steps.add(step);
        }
        return this;
    }

    private Book read(String text, long due, long got) {
        answered(text, got, due);
        return this;
    }

    private void answered(String text, long got, long due) {
        calls++;
        Check.due(text + " behind " + Twins.lastOf(steps), got, due);
        if (calls == CALLS + 1 && !beyondItsCalls) {
            Check.due("calls of one object in the test", calls, CALLS);
        }
    }
}
