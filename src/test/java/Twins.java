import java.util.ArrayList;
import java.util.List;
import java.util.Set;
import java.util.TreeSet;

/** Two books led by the same calls, but that one got a refused call behind them. */
final class Twins {
    private static final int LAST_STEPS = 8;
    private static final int ALL_NUMBERS = 18;
    private static final int SOME_NUMBERS = 5;

    interface Call {
        long on(OutputBook book);
    }

    record Step(String text, Call call) {
    }

    private Twins() {
    }

    /** What can't be read, such as what is in the DRAFT and in the blocks, is seen by what follows. */
    static void lookTheSame(int depth, List<Step> steps, Step refused) {
        String name = refused.text() + " refused behind " + lastOf(steps);
        for (List<Step> more : waysOn(led(depth, steps))) {
            OutputBook without = led(depth, steps);
            OutputBook with = led(depth, steps);
            refused.call().on(with);
            Check.due(name + ", then " + lastOf(more) + ": what is seen", seen(with, more), seen(without, more));
        }
    }

    /** The tail of a run of calls, for a message. */
    static String lastOf(List<Step> steps) {
        StringBuilder text = new StringBuilder(steps.size() > LAST_STEPS ? ".." : "");
        for (int i = Math.max(0, steps.size() - LAST_STEPS); i < steps.size(); i++) {
            text.append(text.length() == 0 ? "" : " ").append(steps.get(i).text());
        }
        return text.length() == 0 ? "nothing" : text.toString();
    }

    private static OutputBook led(int depth, List<Step> steps) {
        OutputBook book = new OutputBook(depth);
        for (Step step : steps) {
            step.call().on(book);
        }
        return book;
    }

    private static List<List<Step>> waysOn(OutputBook book) {
        Step apply = new Step("apply()", OutputBook::apply);
        Step close = new Step("close()", OutputBook::close);
        long free = Edges.MOST - book.look(0);
        Step mintAll = new Step("mint(" + free + ")", one -> {
            one.mint(free);
            return 0;
        });
        List<List<Step>> ways = new ArrayList<>();
        ways.add(List.of());
        ways.add(List.of(apply));
        ways.add(List.of(mintAll, apply));
        ways.add(List.of(close, undo(1)));
        ways.add(List.of(apply, close, close, undo(2)));
        ways.add(spendAll((int) book.look(3)));
        for (int n = 0; n <= book.look(5); n++) {
            ways.add(List.of(undo(n)));
        }
        return ways;
    }

    private static Step undo(int n) {
        return new Step("undo(" + n + ")", book -> book.undo(n));
    }

    private static List<Step> spendAll(int made) {
        List<Step> steps = new ArrayList<>();
        for (int number : someNumbers(made)) {
            steps.add(new Step("spend(" + number + ")", book -> book.spend(number) ? 1 : 0));
        }
        return steps;
    }

    /** Of many the first and the last ones, so that a twin stays within its 512 calls. */
    private static List<Integer> someNumbers(int made) {
        List<Integer> numbers = new ArrayList<>();
        for (int number = -1; number <= made; number++) {
            if (made <= ALL_NUMBERS || number < SOME_NUMBERS || number > made - SOME_NUMBERS) {
                numbers.add(number);
            }
        }
        return numbers;
    }

    private static String seen(OutputBook book, List<Step> more) {
        StringBuilder text = new StringBuilder();
        for (Step step : more) {
            text.append(' ').append(step.call().on(book));
        }
        text.append(" looks");
        for (int which = -1; which <= 10; which++) {
            text.append(' ').append(book.look(which));
        }
        Set<Integer> owners = new TreeSet<>(List.of(0, 1, 255));
        for (int number : someNumbers((int) book.look(3))) {
            text.append(" output ").append(number);
            for (int what = 0; what <= 3; what++) {
                text.append(' ').append(book.output(number, what));
            }
            text.append(' ').append(book.amount(number)).append(' ').append(book.tag(number));
            owners.add(book.output(number, 0));
        }
        for (int owner : owners) {
            text.append(" owner ").append(owner).append(' ').append(book.balance(owner));
            text.append(' ').append(book.count(owner));
            for (int i = 0; i < 3; i++) {
                text.append(' ').append(book.nth(owner, i));
            }
        }
        return text.toString();
    }
}
