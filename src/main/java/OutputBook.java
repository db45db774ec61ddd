/**
 * A book of the outputs of a ledger: transactions spend some and make others, block by block;
 * the last blocks can be undone, and all is as it was ahead of them.
 */
public final class OutputBook {
    public static final int NONE = -1;

    private static final int OWNERS = 256;
    private static final int MOST_OUTPUTS = 2048;
    private static final int MOST_DRAFTED = 16;
    private static final int LEAST_DEPTH = 1;
    private static final int MOST_DEPTH = 64;
    private static final long MOST_SUPPLY = 1L << 62;

    private static final long NOTHING_DRAFTED = -1;
    private static final long NOT_COVERED = -2;
    private static final long TOO_MANY_OUTPUTS = -3;

    private final Outputs outputs;
    private final Draft draft;
    private final Blocks blocks;
    private long supply;
    private long pot;
    private int applied;

    public OutputBook(int depth) {
        outputs = new Outputs();
        draft = new Draft();
        blocks = new Blocks(Math.max(LEAST_DEPTH, Math.min(MOST_DEPTH, depth)));
    }

    public boolean spend(int number) {
        if (!outputs.isLive(number) || draft.hasToSpend(number) || draft.roomToSpend() < 1) {
            return false;
        }
        draft.writeToSpend(0, number);
        draft.keepToSpend(1);
        return true;
    }

    public boolean make(int owner, long amount, long tag) {
        if (owner < 0 || owner >= OWNERS || amount < 1 || draft.roomToMake() < 1) {
            return false;
        }
        draft.addToMake(owner, amount, tag);
        return true;
    }

    public void mint(long amount) {
        draft.mint = amount;
    }

    public void drop() {
        draft.clear();
    }

    public long apply() {
        if (draft.spends == 0 && draft.makes == 0) {
            return NOTHING_DRAFTED;
        }
        long fee = feeOfDraft();
        if (fee < 0) {
            return NOT_COVERED;
        }
        if (draft.makes > outputs.room()) {
            return TOO_MANY_OUTPUTS;
        }
        supply += draft.mint;
        pot += fee;
        applied++;
        bookDraft();
        draft.clear();
        return fee;
    }

    public int close() {
        blocks.openNext(supply, pot, applied);
        return blocks.height;
    }

    public int undo(int n) {
        if (n < 0 || n > blocks.undoable) {
            return NONE;
        }
        blocks.goBack(n);
        supply = blocks.supplyAtOpening();
        pot = blocks.potAtOpening();
        applied = blocks.appliedAtOpening();
        outputs.takeBackFrom(blocks.height);
        draft.clear();
        return blocks.height;
    }

    public int output(int number, int what) {
        if (!outputs.has(number)) {
            return NONE;
        }
        switch (what) {
            case 0:
                return outputs.owners[number];
            case 1:
                return outputs.isLive(number) ? 1 : 0;
            case 2:
                return outputs.madeAt[number];
            case 3:
                return outputs.spentAt[number];
            default:
                return NONE;
        }
    }

    public long amount(int number) {
        return outputs.amountOf(number);
    }

    public long tag(int number) {
        return outputs.has(number) ? outputs.tags[number] : 0;
    }

    public long balance(int owner) {
        long sum = 0;
        for (int number = 0; number < outputs.made; number++) {
            if (outputs.isLiveOf(owner, number)) {
                sum += outputs.amountOf(number);
            }
        }
        return sum;
    }

    public int count(int owner) {
        int found = 0;
        for (int number = 0; number < outputs.made; number++) {
            if (outputs.isLiveOf(owner, number)) {
                found++;
            }
        }
        return found;
    }

    public int nth(int owner, int i) {
        int before = 0;
        for (int number = 0; number < outputs.made; number++) {
            if (outputs.isLiveOf(owner, number)) {
                if (before == i) {
                    return number;
                }
                before++;
            }
        }
        return NONE;
    }

    public int gather(int owner, long amount) {
        if (amount < 1) {
            return NONE;
        }
        // What is still lacking is counted down, since a sum counted up to it could overflow.
        long lacking = amount;
        int number = NONE;
        int room = draft.roomToSpend();
        for (int picked = 0; picked < room; picked++) {
            number = outputs.nextByAmount(owner, number);
            if (number == NONE || draft.hasToSpend(number)) {
                return NONE;
            }
            draft.writeToSpend(picked, number);
            lacking -= outputs.amountOf(number);
            if (lacking <= 0) {
                draft.keepToSpend(picked + 1);
                return picked + 1;
            }
        }
        return NONE;
    }

    public long look(int which) {
        switch (which) {
            case 0:
                return supply;
            case 1:
                return pot;
            case 2:
                return blocks.height;
            case 3:
                return outputs.made;
            case 4:
                return outputs.liveOnes();
            case 5:
                return blocks.undoable;
            case 6:
                return draft.spends;
            case 7:
                return draft.makes;
            case 8:
                return draft.mint;
            case 9:
                return applied;
            default:
                return NONE;
        }
    }

    /**
     * The FEE, or below 0 if the DRAFT is not covered or the SUPPLY would leave its bounds. The MINT
     * is held against the SUPPLY first: behind that test what comes in is at most 2^62, and taking
     * off no more than is left keeps every step within a long.
     */
    private long feeOfDraft() {
        if (draft.mint < -supply || draft.mint > MOST_SUPPLY - supply) {
            return NOT_COVERED;
        }
        long left = draft.mint;
        for (int i = 0; i < draft.spends; i++) {
            left += outputs.amountOf(draft.toSpend[i]);
        }
        for (int i = 0; i < draft.makes; i++) {
            if (draft.amounts[i] > left) {
                return NOT_COVERED;
            }
            left -= draft.amounts[i];
        }
        return left;
    }

    private void bookDraft() {
        for (int i = 0; i < draft.spends; i++) {
            outputs.takeOff(draft.toSpend[i], blocks.height);
        }
        for (int i = 0; i < draft.makes; i++) {
            outputs.add(draft.owners[i], draft.amounts[i], draft.tags[i], blocks.height);
        }
    }

    /** All OUTPUTS that were made, by NUMBERS; a live one is spent at NONE. */
    private static final class Outputs {
        private final int[] owners = new int[MOST_OUTPUTS];
        private final long[] amounts = new long[MOST_OUTPUTS];
        private final long[] tags = new long[MOST_OUTPUTS];
        private final int[] madeAt = new int[MOST_OUTPUTS];
        private final int[] spentAt = new int[MOST_OUTPUTS];
        private int made;

        int room() {
            return MOST_OUTPUTS - made;
        }

        boolean has(int number) {
            return number >= 0 && number < made;
        }

        boolean isLive(int number) {
            return has(number) && spentAt[number] == NONE;
        }

        boolean isLiveOf(int owner, int number) {
            return isLive(number) && owners[number] == owner;
        }

        long amountOf(int number) {
            return has(number) ? amounts[number] : 0;
        }

        int liveOnes() {
            int found = 0;
            for (int number = 0; number < made; number++) {
                if (isLive(number)) {
                    found++;
                }
            }
            return found;
        }

        void add(int owner, long amount, long tag, int height) {
            if (room() < 1) {
                return;
            }
            owners[made] = owner;
            amounts[made] = amount;
            tags[made] = tag;
            madeAt[made] = height;
            spentAt[made] = NONE;
            made++;
        }

        void takeOff(int number, int height) {
            if (isLive(number)) {
                spentAt[number] = height;
            }
        }

        /** A block is known by the HEIGHT at which it was open, so heights alone tell what to undo. */
        void takeBackFrom(int height) {
            while (made > 0 && madeAt[made - 1] >= height) {
                made--;
            }
            for (int number = 0; number < made; number++) {
                if (spentAt[number] >= height) {
                    spentAt[number] = NONE;
                }
            }
        }

        /** The owner's live one that stands next behind another, or first behind NONE. */
        int nextByAmount(int owner, int behind) {
            int best = NONE;
            for (int number = 0; number < made; number++) {
                if (isLiveOf(owner, number)
                        && (!has(behind) || standsAhead(behind, number))
                        && (!has(best) || standsAhead(number, best))) {
                    best = number;
                }
            }
            return best;
        }

        /** Greater AMOUNTS stand ahead, and of the same AMOUNT the lesser NUMBER. */
        private boolean standsAhead(int one, int other) {
            return amounts[one] > amounts[other] || (amounts[one] == amounts[other] && one < other);
        }
    }

    /** THE DRAFT: the NUMBERS to spend, the OUTPUTS to make, and the MINT. */
    private static final class Draft {
        private final int[] toSpend = new int[MOST_DRAFTED];
        private final int[] owners = new int[MOST_DRAFTED];
        private final long[] amounts = new long[MOST_DRAFTED];
        private final long[] tags = new long[MOST_DRAFTED];
        private int spends;
        private int makes;
        private long mint;

        int roomToSpend() {
            return MOST_DRAFTED - spends;
        }

        int roomToMake() {
            return MOST_DRAFTED - makes;
        }

        boolean hasToSpend(int number) {
            for (int i = 0; i < spends; i++) {
                if (toSpend[i] == number) {
                    return true;
                }
            }
            return false;
        }

        /** Counts only once it is kept, so that a gathering that fails changes nothing. */
        void writeToSpend(int place, int number) {
            if (place >= 0 && place < roomToSpend()) {
                toSpend[spends + place] = number;
            }
        }

        void keepToSpend(int written) {
            if (written >= 0 && written <= roomToSpend()) {
                spends += written;
            }
        }

        void addToMake(int owner, long amount, long tag) {
            if (roomToMake() < 1) {
                return;
            }
            owners[makes] = owner;
            amounts[makes] = amount;
            tags[makes] = tag;
            makes++;
        }

        void clear() {
            spends = 0;
            makes = 0;
            mint = 0;
        }
    }

    /** HEIGHT, how far one can go back, and what the totals were when each such block was opened. */
    private static final class Blocks {
        private final int depth;
        // A ring: the open block has a row, and so has each closed one that can be undone.
        private final long[] supplies;
        private final long[] pots;
        private final int[] applieds;
        private int row;
        private int height;
        private int undoable;

        Blocks(int depth) {
            this.depth = depth;
            supplies = new long[depth + 1];
            pots = new long[depth + 1];
            applieds = new int[depth + 1];
        }

        void openNext(long supply, long pot, int applied) {
            row = row < depth ? row + 1 : 0;
            supplies[row] = supply;
            pots[row] = pot;
            applieds[row] = applied;
            height++;
            undoable = Math.min(depth, undoable + 1);
        }

        void goBack(int n) {
            if (n < 0 || n > undoable) {
                return;
            }
            row = row >= n ? row - n : row - n + depth + 1;
            height -= n;
            undoable -= n;
        }

        long supplyAtOpening() {
            return supplies[row];
        }

        long potAtOpening() {
            return pots[row];
        }

        int appliedAtOpening() {
            return applieds[row];
        }
    }
}
