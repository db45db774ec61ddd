import java.math.BigInteger;
import java.util.ArrayList;
import java.util.Comparator;
import java.util.List;

/**
 * All promises together: long mixed runs, each answer held against a slow model that keeps a whole
 * copy of the ledger for each block and counts in numbers without bounds.
 */
public final class ModelTest {
    private static final int RUNS = 3000;
    private static final int CALLS = 512;
    private static final long MOST = Edges.MOST;

    public static void main(String[] args) {
        for (int run = 0; run < RUNS && Check.wrongOnes() < 20; run++) {
            new Run(run).go();
        }
        Check.end();
    }

    private record Output(int owner, long amount, long tag, int madeAt, int spentAt) {
        boolean live() {
            return spentAt == -1;
        }

        Output spent(int height) {
            return new Output(owner, amount, tag, madeAt, height);
        }
    }

    private static final class Ledger {
        final List<Output> outputs = new ArrayList<>();
        BigInteger supply = BigInteger.ZERO;
        BigInteger pot = BigInteger.ZERO;
        int applied;

        Ledger copy() {
            Ledger other = new Ledger();
            other.outputs.addAll(outputs);
            other.supply = supply;
            other.pot = pot;
            other.applied = applied;
            return other;
        }

        List<Integer> liveOf(int owner) {
            List<Integer> found = new ArrayList<>();
            for (int i = 0; i < outputs.size(); i++) {
                if (outputs.get(i).live() && outputs.get(i).owner() == owner) {
                    found.add(i);
                }
            }
            return found;
        }
    }

    private static final class Model {
        final int depth;
        final List<Ledger> openings = new ArrayList<>();
        Ledger now = new Ledger();
        int undoable;
        List<Integer> toSpend = new ArrayList<>();
        List<Output> toMake = new ArrayList<>();
        long mint;

        Model(int depth) {
            this.depth = depth < 1 ? 1 : depth > 64 ? 64 : depth;
            openings.add(now.copy());
        }

        int height() {
            return openings.size() - 1;
        }

        boolean there(int number) {
            return number >= 0 && number < now.outputs.size();
        }

        boolean spend(int number) {
            if (!there(number) || !now.outputs.get(number).live() || toSpend.contains(number)
                    || toSpend.size() == 16) {
                return false;
            }
            return toSpend.add(number);
        }

        boolean make(int owner, long amount, long tag) {
            if (owner < 0 || owner > 255 || amount <= 0 || toMake.size() == 16) {
                return false;
            }
            return toMake.add(new Output(owner, amount, tag, -1, -1));
        }

        void drop() {
            toSpend = new ArrayList<>();
            toMake = new ArrayList<>();
            mint = 0;
        }

        long apply() {
            if (toSpend.isEmpty() && toMake.isEmpty()) {
                return -1;
            }
            BigInteger fee = BigInteger.valueOf(mint);
            for (int number : toSpend) {
                fee = fee.add(BigInteger.valueOf(now.outputs.get(number).amount()));
            }
            for (Output one : toMake) {
                fee = fee.subtract(BigInteger.valueOf(one.amount()));
            }
            BigInteger supply = now.supply.add(BigInteger.valueOf(mint));
            if (fee.signum() < 0 || supply.signum() < 0 || supply.compareTo(BigInteger.valueOf(MOST)) > 0) {
                return -2;
            }
            for (int number : toSpend) {
                now.outputs.set(number, now.outputs.get(number).spent(height()));
            }
            for (Output one : toMake) {
                now.outputs.add(new Output(one.owner(), one.amount(), one.tag(), height(), -1));
            }
            now.supply = supply;
            now.pot = now.pot.add(fee);
            now.applied++;
            drop();
            return fee.longValueExact();
        }

        int close() {
            openings.add(now.copy());
            undoable = Math.min(depth, undoable + 1);
            return height();
        }

        int undo(int n) {
            if (n < 0 || n > undoable) {
                return -1;
            }
            for (int i = 0; i < n; i++) {
                openings.remove(openings.size() - 1);
            }
            undoable -= n;
            now = openings.get(height()).copy();
            drop();
            return height();
        }

        int output(int number, int what) {
            if (!there(number)) {
                return -1;
            }
            Output one = now.outputs.get(number);
            return switch (what) {
                case 0 -> one.owner();
                case 1 -> one.live() ? 1 : 0;
                case 2 -> one.madeAt();
                case 3 -> one.spentAt();
                default -> -1;
            };
        }

        long amount(int number) {
            return there(number) ? now.outputs.get(number).amount() : 0;
        }

        long tag(int number) {
            return there(number) ? now.outputs.get(number).tag() : 0;
        }

        long balance(int owner) {
            return now.liveOf(owner).stream().mapToLong(this::amount).sum();
        }

        int nth(int owner, int i) {
            List<Integer> live = now.liveOf(owner);
            return i >= 0 && i < live.size() ? live.get(i) : -1;
        }

        int gather(int owner, long amount) {
            List<Integer> live = now.liveOf(owner);
            live.sort(Comparator.comparing((Integer number) -> -amount(number)).thenComparing(number -> number));
            BigInteger sum = BigInteger.ZERO;
            for (int taken = 1; amount >= 1 && taken <= live.size(); taken++) {
                sum = sum.add(BigInteger.valueOf(amount(live.get(taken - 1))));
                if (sum.compareTo(BigInteger.valueOf(amount)) >= 0) {
                    return takeAll(live.subList(0, taken));
                }
            }
            return -1;
        }

        private int takeAll(List<Integer> chosen) {
            for (int number : chosen) {
                if (toSpend.contains(number)) {
                    return -1;
                }
            }
            if (toSpend.size() + chosen.size() > 16) {
                return -1;
            }
            toSpend.addAll(chosen);
            return chosen.size();
        }

        long look(int which) {
            return switch (which) {
                case 0 -> now.supply.longValueExact();
                case 1 -> now.pot.longValueExact();
                case 2 -> height();
                case 3 -> now.outputs.size();
                case 4 -> now.outputs.stream().filter(Output::live).count();
                case 5 -> undoable;
                case 6 -> toSpend.size();
                case 7 -> toMake.size();
                case 8 -> mint;
                case 9 -> now.applied;
                default -> -1;
            };
        }
    }

    private static final class Run {
        private final int run;
        private final int owners;
        private final boolean calm;
        private final OutputBook book;
        private final Model model;
        private long seed;
        private int call;

        Run(int run) {
            this.run = run;
            seed = run * 0x9E3779B97F4A7C15L + 1;
            owners = 1 + below(4);
            calm = below(3) > 0;
            int depth = below(4) == 0 ? below(80) - 5 : 1 + below(6);
            book = new OutputBook(depth);
            model = new Model(depth);
        }

        /** The same numbers in every run of the test, so that a fault can be found again. */
        private int below(int bound) {
            seed = seed * 6364136223846793005L + 1442695040888963407L;
            return (int) ((seed >>> 33) % bound);
        }

        void go() {
            for (call = 0; call < CALLS; call++) {
                int kind = below(100);
                if (kind < 65) {
                    change(kind);
                } else {
                    read(kind);
                }
            }
        }

        private void due(String name, long got, long want) {
            Check.due("run " + run + ", call " + call + ": " + name, got, want);
        }

        private void change(int kind) {
            if (kind < 12) {
                int number = number();
                due("spend(" + number + ")", book.spend(number) ? 1 : 0, model.spend(number) ? 1 : 0);
            } else if (kind < 32) {
                int owner = owner();
                long amount = amount();
                long tag = below(10) == 0 ? Edges.LONGS[below(Edges.LONGS.length)] : below(1000) - 500L;
                due("make(" + owner + ", " + amount + ", " + tag + ")",
                        book.make(owner, amount, tag) ? 1 : 0, model.make(owner, amount, tag) ? 1 : 0);
            } else if (kind < 40) {
                long mint = mint();
                book.mint(mint);
                model.mint = mint;
            } else if (kind < 41) {
                book.drop();
                model.drop();
            } else if (kind < 50) {
                due("apply()", book.apply(), model.apply());
            } else if (kind < 56) {
                due("close()", book.close(), model.close());
            } else if (kind < 58) {
                int n = below(20) == 0 ? anyInt() : below(8) == 0 ? below(70) - 2 : below(4) - (below(9) == 0 ? 1 : 0);
                due("undo(" + n + ")", book.undo(n), model.undo(n));
            } else {
                int owner = owner();
                long amount = gathering(owner);
                due("gather(" + owner + ", " + amount + ")", book.gather(owner, amount), model.gather(owner, amount));
            }
        }

        private void read(int kind) {
            int number = number();
            int owner = owner();
            if (kind < 74) {
                int what = below(20) == 0 ? anyInt() : below(6) - 1;
                due("output(" + number + ", " + what + ")", book.output(number, what), model.output(number, what));
            } else if (kind < 76) {
                due("amount(" + number + ")", book.amount(number), model.amount(number));
            } else if (kind < 78) {
                due("tag(" + number + ")", book.tag(number), model.tag(number));
            } else if (kind < 81) {
                due("balance(" + owner + ")", book.balance(owner), model.balance(owner));
            } else if (kind < 84) {
                due("count(" + owner + ")", book.count(owner), model.now.liveOf(owner).size());
            } else if (kind < 88) {
                int i = below(20) == 0 ? anyInt() : below(12) - 1;
                due("nth(" + owner + ", " + i + ")", book.nth(owner, i), model.nth(owner, i));
            } else {
                int which = below(20) == 0 ? anyInt() : below(12) - 1;
                due("look(" + which + ")", book.look(which), model.look(which));
            }
        }

        private int anyInt() {
            return Edges.INTS[below(Edges.INTS.length)];
        }

        private int number() {
            return below(30) == 0 ? anyInt() : below(model.now.outputs.size() + 3) - 1;
        }

        private int owner() {
            return below(20) == 0 ? anyInt() : below(owners);
        }

        private long amount() {
            if (below(calm ? 100 : 12) == 0) {
                return below(8) == 0 ? MOST / 2 : Edges.LONGS[below(Edges.LONGS.length)];
            }
            return 1 + below(12);
        }

        /** Mostly just what makes the draft's fee something near 0, so that drafts are applied. */
        private long mint() {
            long supply = model.now.supply.longValueExact();
            long[] edges = {
                Long.MIN_VALUE, Long.MAX_VALUE, MOST, -MOST, MOST - supply, MOST - supply + 1, -supply, -supply - 1,
            };
            if (below(calm ? 30 : 4) == 0) {
                return edges[below(edges.length)];
            }
            long needed = 0;
            for (Output one : model.toMake) {
                needed += one.amount();
            }
            for (int number : model.toSpend) {
                needed -= model.amount(number);
            }
            return needed + below(20) - 3;
        }

        private long gathering(int owner) {
            long balance = model.balance(owner);
            int kind = below(10);
            if (kind == 0) {
                return balance + below(3) - 1;
            }
            return kind == 1 ? below(3) - 1L : kind == 2 ? Long.MAX_VALUE : 1 + below(40);
        }
    }
}
