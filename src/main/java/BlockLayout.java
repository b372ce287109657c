/**
 * A basic-block layout optimizer for one function: it orders the basic blocks of a control-flow
 * graph by profile counts, splits off cold blocks, bypasses empty ones, and evaluates run-time
 * cost, addresses and code size.
 *
 * <p>Nothing is made after the constructor: every row that a call needs stands in the object from
 * the beginning and is used again, so that a long run of calls takes no more room than a short one.
 */
public final class BlockLayout {
    public static final int NO_SUCH_INDEX = -1;
    public static final int BAD_VALUE = -2;
    public static final int NOT_POSSIBLE = -3;
    public static final int FULL = -4;
    public static final int NONE = -9;

    private static final int MOST_BLOCKS = 8;
    private static final int MOST_SUCCESSORS = 2;
    private static final int MOST_EDGES = MOST_BLOCKS * MOST_SUCCESSORS;
    private static final int MOST_COUNT = 99;
    private static final int MOST_SIGNS = 99;
    private static final int MOST_STEPS = 99;
    private static final int MOST_COMMANDS = 4;
    private static final int MOST_ALIGNMENT = 16;
    private static final int REMEMBERED_STATES = 14;
    private static final int SAVE_SLOTS = 2;

    private static final int BRANCH_BYTES = 2;
    private static final int COLD_ALIGNMENT = 16;
    private static final int FALL_THROUGH_COST = 0;
    private static final int JUMP_COST = 2;
    private static final int CONDITIONAL_COST = 3;

    /** Stands where a block has no follower; no successor ever equals it. */
    private static final int NO_BLOCK = -1;

    /** What a refusal answers when there is none. */
    private static final int ALLOWED = 0;

    private final Frame frame;
    private final State present;
    private final State trial;
    private final State[] saved;
    private final boolean[] isSaved;
    private final History history;
    private final SetupText text;
    private final Chains chains;
    private final OptimalOrder optimum;

    public BlockLayout() {
        frame = new Frame();
        present = new State(frame);
        trial = new State(frame);
        saved = new State[SAVE_SLOTS];
        for (int slot = 0; slot < SAVE_SLOTS; slot++) {
            saved[slot] = new State(frame);
        }
        isSaved = new boolean[SAVE_SLOTS];
        history = new History(frame);
        text = new SetupText();
        chains = new Chains();
        optimum = new OptimalOrder();
    }

    // ---- setup text

    public int append(int c) {
        return text.addSign(c);
    }

    public int clearText() {
        return text.dropSigns();
    }

    public int errorPosition() {
        return text.read();
    }

    public int load() {
        if (text.read() != NONE) {
            return NOT_POSSIBLE;
        }
        frame.copyFrom(text.draftFrame);
        present.copyFrom(text.draft);
        history.forget();
        for (int slot = 0; slot < SAVE_SLOTS; slot++) {
            isSaved[slot] = false;
        }
        return frame.blocks;
    }

    // ---- the function

    public int blockCount() {
        return frame.blocks;
    }

    public int size(int b) {
        return frame.hasBlock(b) ? frame.bytes[b] : NO_SUCH_INDEX;
    }

    public int successor(int b, int k) {
        return present.hasEdge(b, k) ? present.target(b, k) : NO_SUCH_INDEX;
    }

    public int edgeCount(int b, int k) {
        return present.hasEdge(b, k) ? present.count(b, k) : NO_SUCH_INDEX;
    }

    public int executions(int b) {
        return frame.hasBlock(b) ? present.runsOf(b) : NO_SUCH_INDEX;
    }

    // ---- the layout

    public int blockAt(int i) {
        return frame.hasPosition(i) ? present.order[i] : NO_SUCH_INDEX;
    }

    public int hotCount() {
        return present.hot;
    }

    public int cost() {
        return present.totalCost();
    }

    public int codeSize() {
        return Placement.endOfCode(present);
    }

    public int address(int b) {
        return frame.hasBlock(b) ? Placement.startOf(present, b) : NO_SUCH_INDEX;
    }

    public int branchBytes(int b) {
        return frame.hasBlock(b) ? present.branchBytesBefore(b, present.followerOf(b)) : NO_SUCH_INDEX;
    }

    public int edgeCost(int b, int k) {
        return present.hasEdge(b, k) ? present.passCost(b, k, present.followerOf(b)) : NO_SUCH_INDEX;
    }

    public int chainHead(int b) {
        if (!frame.hasBlock(b)) {
            return NO_SUCH_INDEX;
        }
        chains.merge(present);
        return chains.head[b];
    }

    public int optimalCost() {
        return optimum.leastCost(present);
    }

    public int bestRotation(int first, int last) {
        int refusal = present.refusalToTurn(first, last);
        if (refusal != ALLOWED) {
            return refusal;
        }
        trial.copyFrom(present);
        int best = 0;
        int bestCost = trial.totalCost();
        for (int r = 1; r <= last - first; r++) {
            trial.turn(first, last);
            int turnedCost = trial.totalCost();
            if (turnedCost < bestCost) {
                best = r;
                bestCost = turnedCost;
            }
        }
        return best;
    }

    // ---- actions

    public int orderByChains() {
        history.remember(present);
        chains.merge(present);
        chains.arrange(present);
        return present.totalCost();
    }

    public int orderOptimally() {
        history.remember(present);
        optimum.arrange(present);
        return present.totalCost();
    }

    public int swap(int i, int j) {
        int refusal = present.refusalToExchange(i, j);
        if (refusal != ALLOWED) {
            return refusal;
        }
        history.remember(present);
        present.exchange(i, j);
        return present.totalCost();
    }

    public int rotate(int first, int last) {
        int refusal = present.refusalToTurn(first, last);
        if (refusal != ALLOWED) {
            return refusal;
        }
        history.remember(present);
        present.turn(first, last);
        return present.totalCost();
    }

    public int split(int threshold) {
        int refusal = State.refusalToDivide(threshold);
        if (refusal != ALLOWED) {
            return refusal;
        }
        history.remember(present);
        present.divide(threshold);
        return present.hot;
    }

    public int bypass(int b) {
        int refusal = present.refusalToGoAround(b);
        if (refusal != ALLOWED) {
            return refusal;
        }
        history.remember(present);
        return present.goAround(b);
    }

    public int setCount(int b, int k, int c) {
        if (!present.hasEdge(b, k)) {
            return NO_SUCH_INDEX;
        }
        if (c < 0 || c > MOST_COUNT) {
            return BAD_VALUE;
        }
        history.remember(present);
        int previous = present.count(b, k);
        present.putCount(b, k, c);
        return previous;
    }

    public int setAlignment(int a) {
        if (a < 1 || a > MOST_ALIGNMENT || Integer.bitCount(a) != 1) {
            return BAD_VALUE;
        }
        history.remember(present);
        int previous = present.alignment;
        present.alignment = a;
        return previous;
    }

    public int undo() {
        return history.takeBack(present);
    }

    // ---- scripts, execution

    public int runScript(int n, long script) {
        if (!Script.isWellFormed(n, script)) {
            return BAD_VALUE;
        }
        trial.copyFrom(present);
        return Script.firstFailure(trial, n, script);
    }

    public int execute(long seed, int m) {
        if (m < 1 || m > MOST_STEPS) {
            return BAD_VALUE;
        }
        return Walk.costOf(present, seed, m);
    }

    // ---- save slots

    public int save(int slot) {
        if (slot < 0 || slot >= SAVE_SLOTS) {
            return NO_SUCH_INDEX;
        }
        saved[slot].copyFrom(present);
        isSaved[slot] = true;
        return present.hot;
    }

    public int restore(int slot) {
        if (slot < 0 || slot >= SAVE_SLOTS) {
            return NO_SUCH_INDEX;
        }
        if (!isSaved[slot]) {
            return NOT_POSSIBLE;
        }
        present.copyFrom(saved[slot]);
        history.forget();
        return present.hot;
    }

    /**
     * What only a load changes. All states of one object share one frame: a load forgets every
     * other state, so none ever meets the frame of another function.
     */
    private static final class Frame {
        int blocks = 1;
        int entryCount = 0;
        final int[] bytes = new int[MOST_BLOCKS];

        void copyFrom(Frame other) {
            blocks = other.blocks;
            entryCount = other.entryCount;
            System.arraycopy(other.bytes, 0, bytes, 0, MOST_BLOCKS);
        }

        boolean hasBlock(int b) {
            return b >= 0 && b < blocks;
        }

        boolean hasPosition(int i) {
            return i >= 0 && i < blocks;
        }
    }

    /** What actions change and undo, save and restore bring back. */
    private static final class State {
        final Frame frame;
        final int[] exits = new int[MOST_BLOCKS];
        final int[] targets = new int[MOST_EDGES];
        final int[] counts = new int[MOST_EDGES];
        final int[] order = new int[MOST_BLOCKS];
        int hot = 1;
        int alignment = 1;

        State(Frame frame) {
            this.frame = frame;
        }

        void copyFrom(State other) {
            System.arraycopy(other.exits, 0, exits, 0, MOST_BLOCKS);
            System.arraycopy(other.targets, 0, targets, 0, MOST_EDGES);
            System.arraycopy(other.counts, 0, counts, 0, MOST_EDGES);
            System.arraycopy(other.order, 0, order, 0, MOST_BLOCKS);
            hot = other.hot;
            alignment = other.alignment;
        }

        void layOutByNumber() {
            for (int b = 0; b < MOST_BLOCKS; b++) {
                order[b] = b;
            }
            hot = frame.blocks;
            alignment = 1;
        }

        // -- edges

        boolean hasEdge(int b, int k) {
            return frame.hasBlock(b) && k >= 0 && k < exits[b];
        }

        int target(int b, int k) {
            return targets[MOST_SUCCESSORS * b + k];
        }

        int count(int b, int k) {
            return counts[MOST_SUCCESSORS * b + k];
        }

        void putTarget(int b, int k, int successor) {
            targets[MOST_SUCCESSORS * b + k] = successor;
        }

        void putCount(int b, int k, int c) {
            counts[MOST_SUCCESSORS * b + k] = c;
        }

        boolean leadsTo(int b, int successor) {
            for (int k = 0; k < exits[b]; k++) {
                if (targets[MOST_SUCCESSORS * b + k] == successor) {
                    return true;
                }
            }
            return false;
        }

        int runsOf(int b) {
            int sum = b == 0 ? frame.entryCount : 0;
            for (int from = 0; from < frame.blocks; from++) {
                for (int k = 0; k < exits[from]; k++) {
                    if (target(from, k) == b) {
                        sum += count(from, k);
                    }
                }
            }
            return sum;
        }

        // -- followers, branches and cost

        int followerAt(int position) {
            int next = position + 1;
            return next == hot || next >= frame.blocks ? NO_BLOCK : order[next];
        }

        int followerOf(int b) {
            for (int position = 0; position < frame.blocks; position++) {
                if (order[position] == b) {
                    return followerAt(position);
                }
            }
            return NO_BLOCK;
        }

        /** Every edge that does not fall through needs just one branch, conditional or jump. */
        int branchBytesBefore(int b, int follower) {
            int bytes = 0;
            for (int k = 0; k < exits[b]; k++) {
                if (target(b, k) != follower) {
                    bytes += BRANCH_BYTES;
                }
            }
            return bytes;
        }

        int passCost(int b, int k, int follower) {
            if (target(b, k) == follower) {
                return FALL_THROUGH_COST;
            }
            if (exits[b] == 1) {
                return JUMP_COST;
            }
            if (target(b, 1 - k) == follower) {
                return CONDITIONAL_COST;
            }
            int conditionalSlot = count(b, 1) > count(b, 0) ? 1 : 0;
            return k == conditionalSlot ? CONDITIONAL_COST : JUMP_COST;
        }

        /** A block's share of the cost hangs on its follower alone, not on the rest of the layout. */
        int shareOfCost(int b, int follower) {
            int sum = 0;
            for (int k = 0; k < exits[b]; k++) {
                sum += count(b, k) * passCost(b, k, follower);
            }
            return sum;
        }

        int totalCost() {
            int sum = 0;
            for (int i = 0; i < frame.blocks; i++) {
                sum += shareOfCost(order[i], followerAt(i));
            }
            return sum;
        }

        // -- changes of the layout

        int refusalToExchange(int i, int j) {
            if (!frame.hasPosition(i) || !frame.hasPosition(j)) {
                return NO_SUCH_INDEX;
            }
            return i == 0 || j == 0 ? NOT_POSSIBLE : ALLOWED;
        }

        void exchange(int i, int j) {
            int moved = order[i];
            order[i] = order[j];
            order[j] = moved;
        }

        int refusalToTurn(int first, int last) {
            if (!frame.hasPosition(first) || !frame.hasPosition(last)) {
                return NO_SUCH_INDEX;
            }
            return first == 0 || first > last || last >= hot ? NOT_POSSIBLE : ALLOWED;
        }

        /** A rotation by 1; a rotation by r is this one r times over. */
        void turn(int first, int last) {
            int moved = order[first];
            for (int i = first; i < last; i++) {
                order[i] = order[i + 1];
            }
            order[last] = moved;
        }

        static int refusalToDivide(int threshold) {
            return threshold < 1 || threshold > MOST_COUNT ? BAD_VALUE : ALLOWED;
        }

        /**
         * Each hot block moves up past the cold ones that were met before it, so that both sections
         * keep their order without a second row.
         */
        void divide(int threshold) {
            int hotSoFar = 0;
            for (int i = 0; i < frame.blocks; i++) {
                int b = order[i];
                if (b == 0 || runsOf(b) >= threshold) {
                    for (int j = i; j > hotSoFar; j--) {
                        order[j] = order[j - 1];
                    }
                    order[hotSoFar] = b;
                    hotSoFar++;
                }
            }
            hot = hotSoFar;
        }

        // -- bypassing

        int refusalToGoAround(int b) {
            if (!frame.hasBlock(b)) {
                return NO_SUCH_INDEX;
            }
            boolean isFree = b != 0 && frame.bytes[b] == 0 && exits[b] == 1 && target(b, 0) != b;
            return isFree ? ALLOWED : NOT_POSSIBLE;
        }

        int goAround(int b) {
            int redirected = 0;
            for (int from = 0; from < frame.blocks; from++) {
                for (int k = 0; k < exits[from]; k++) {
                    if (target(from, k) == b) {
                        putTarget(from, k, target(b, 0));
                        redirected++;
                    }
                }
                joinEqualEdges(from);
            }
            putCount(b, 0, 0);
            return redirected;
        }

        private void joinEqualEdges(int b) {
            if (exits[b] == MOST_SUCCESSORS && target(b, 0) == target(b, 1)) {
                putCount(b, 0, Math.min(MOST_COUNT, count(b, 0) + count(b, 1)));
                exits[b] = 1;
            }
        }
    }

    /** The states before the last actions, as a ring that overwrites its oldest one when full. */
    private static final class History {
        private final State[] ring = new State[REMEMBERED_STATES];
        private int oldest = 0;
        private int held = 0;

        History(Frame frame) {
            for (int i = 0; i < REMEMBERED_STATES; i++) {
                ring[i] = new State(frame);
            }
        }

        void forget() {
            held = 0;
        }

        void remember(State state) {
            if (held == REMEMBERED_STATES) {
                oldest = (oldest + 1) % REMEMBERED_STATES;
                held--;
            }
            ring[(oldest + held) % REMEMBERED_STATES].copyFrom(state);
            held++;
        }

        int takeBack(State state) {
            if (held == 0) {
                return NOT_POSSIBLE;
            }
            held--;
            state.copyFrom(ring[(oldest + held) % REMEMBERED_STATES]);
            return held;
        }
    }

    /**
     * The text buffer and its reader. Reading fills a draft, so that checking the text and loading it
     * go through the same lines; the draft counts only if the whole text was a setup.
     */
    private static final class SetupText {
        final Frame draftFrame = new Frame();
        final State draft = new State(draftFrame);
        private final int[] signs = new int[MOST_SIGNS];
        private int length = 0;
        private int at = 0;

        int addSign(int c) {
            if (c < 0 || c > 255) {
                return BAD_VALUE;
            }
            if (length >= MOST_SIGNS) {
                return FULL;
            }
            signs[length] = c;
            length++;
            return length;
        }

        int dropSigns() {
            int previous = length;
            length = 0;
            return previous;
        }

        /**
         * Answers NONE or the error position: a reader stops in front of the sign that it can't take,
         * or behind the last sign if the text is too short.
         */
        int read() {
            at = 0;
            boolean isWhole = readHead() && readBlocks() && at == length;
            return isWhole ? NONE : at;
        }

        private boolean readHead() {
            if (at >= length || signs[at] != 'B') {
                return false;
            }
            at++;
            int blocks = readDigit(1, MOST_BLOCKS);
            if (blocks < 0) {
                return false;
            }
            draftFrame.blocks = blocks;
            int entryCount = readCount();
            draftFrame.entryCount = entryCount;
            draft.layOutByNumber();
            return entryCount >= 0;
        }

        private boolean readBlocks() {
            for (int b = 0; b < draftFrame.blocks; b++) {
                if (!readBlock(b)) {
                    return false;
                }
            }
            return true;
        }

        private boolean readBlock(int b) {
            int bytes = readDigit(0, 9);
            if (bytes < 0) {
                return false;
            }
            draftFrame.bytes[b] = bytes;
            int exits = readDigit(0, Math.min(MOST_SUCCESSORS, draftFrame.blocks));
            if (exits < 0) {
                return false;
            }
            draft.exits[b] = exits;
            for (int k = 0; k < exits; k++) {
                if (!readEdge(b, k)) {
                    return false;
                }
            }
            return true;
        }

        private boolean readEdge(int b, int k) {
            int successor = readDigit(0, draftFrame.blocks - 1);
            if (successor < 0) {
                return false;
            }
            if (k == 1 && successor == draft.target(b, 0)) {
                // The error is this sign and not the one behind it.
                at--;
                return false;
            }
            int c = readCount();
            draft.putTarget(b, k, successor);
            draft.putCount(b, k, c);
            return c >= 0;
        }

        private int readCount() {
            int tens = readDigit(0, 9);
            if (tens < 0) {
                return -1;
            }
            int ones = readDigit(0, 9);
            return ones < 0 ? -1 : 10 * tens + ones;
        }

        private int readDigit(int least, int most) {
            if (at >= length) {
                return -1;
            }
            int digit = signs[at] - '0';
            if (digit < least || digit > most) {
                return -1;
            }
            at++;
            return digit;
        }
    }

    /** Chain merging and the chain order. */
    private static final class Chains {
        final int[] head = new int[MOST_BLOCKS];
        private final int[] next = new int[MOST_BLOCKS];
        private final int[] edges = new int[MOST_EDGES];
        private int edgesHeld = 0;
        private int placedSet = 0;

        void merge(State state) {
            for (int b = 0; b < state.frame.blocks; b++) {
                head[b] = b;
                next[b] = NO_BLOCK;
            }
            sortEdges(state);
            for (int i = 0; i < edgesHeld; i++) {
                int b = edges[i] / MOST_SUCCESSORS;
                joinBehind(state, b, state.targets[edges[i]]);
            }
        }

        /** Inserted in the order of their numbers, edges of equal counts stay in that order. */
        private void sortEdges(State state) {
            edgesHeld = 0;
            for (int b = 0; b < state.frame.blocks; b++) {
                for (int k = 0; k < state.exits[b]; k++) {
                    if (state.count(b, k) > 0) {
                        insertEdge(state, MOST_SUCCESSORS * b + k);
                    }
                }
            }
        }

        private void insertEdge(State state, int edge) {
            int i = edgesHeld;
            while (i > 0 && state.counts[edges[i - 1]] < state.counts[edge]) {
                edges[i] = edges[i - 1];
                i--;
            }
            edges[i] = edge;
            edgesHeld++;
        }

        private void joinBehind(State state, int b, int successor) {
            boolean fits = next[b] == NO_BLOCK && head[successor] == successor
                    && head[b] != successor && successor != 0;
            if (!fits) {
                return;
            }
            next[b] = successor;
            for (int member = 0; member < state.frame.blocks; member++) {
                if (head[member] == successor) {
                    head[member] = head[b];
                }
            }
        }

        /** Wants the chains of this state merged; block 0 is always the head of its chain. */
        void arrange(State state) {
            placedSet = 0;
            int placed = placeChain(state, 0, 0);
            for (int round = 1; round < state.frame.blocks && placed < state.frame.blocks; round++) {
                placed = placeChain(state, heaviestHead(state), placed);
            }
            state.hot = state.frame.blocks;
        }

        private int placeChain(State state, int first, int position) {
            int i = position;
            for (int b = first; b != NO_BLOCK && i < state.frame.blocks; b = next[b]) {
                state.order[i] = b;
                placedSet |= 1 << b;
                i++;
            }
            return i;
        }

        private int heaviestHead(State state) {
            int heaviest = NO_BLOCK;
            int greatest = -1;
            for (int b = 0; b < state.frame.blocks; b++) {
                if (head[b] == b && !isPlaced(b)) {
                    int weight = weightOf(state, b);
                    if (weight > greatest) {
                        heaviest = b;
                        greatest = weight;
                    }
                }
            }
            return heaviest;
        }

        private int weightOf(State state, int chain) {
            int sum = 0;
            for (int b = 0; b < state.frame.blocks; b++) {
                for (int k = 0; k < state.exits[b]; k++) {
                    int successor = state.target(b, k);
                    boolean goesIn = isPlaced(b) && head[successor] == chain;
                    boolean comesOut = head[b] == chain && isPlaced(successor);
                    if (goesIn || comesOut) {
                        sum += state.count(b, k);
                    }
                }
            }
            return sum;
        }

        private boolean isPlaced(int b) {
            return (placedSet >> b & 1) != 0;
        }
    }

    /**
     * The optimal layout. As a block's share of the cost hangs on its follower alone, the cheapest
     * way to go on from a block hangs on the set of blocks still to be placed and not on the order of
     * those before it; so sets are enough, and no row of all orders is walked.
     */
    private static final class OptimalOrder {
        private static final int SETS_OF_BLOCKS = 1 << MOST_BLOCKS;
        /** By set and last block placed: the least cost of that block and all of the set behind it. */
        private final int[] least = new int[SETS_OF_BLOCKS * MOST_BLOCKS];
        /** By block and follower; the last column is for no follower. */
        private final int[] shares = new int[MOST_BLOCKS * (MOST_BLOCKS + 1)];
        private int freeSet = 0;

        int leastCost(State state) {
            fillShares(state);
            collectFreeBlocks(state);
            for (int set = 0; set <= freeSet; set++) {
                if ((set & ~freeSet) == 0) {
                    fillSet(state, set);
                }
            }
            return least[freeSet * MOST_BLOCKS] + coldCost(state);
        }

        private static int coldCost(State state) {
            int sum = 0;
            for (int i = state.hot; i < state.frame.blocks; i++) {
                sum += state.shareOfCost(state.order[i], state.followerAt(i));
            }
            return sum;
        }

        /** Among the cheapest ways on, the smallest block is taken each time: that is the first order. */
        void arrange(State state) {
            leastCost(state);
            int set = freeSet;
            int last = 0;
            for (int i = 1; i < state.hot; i++) {
                int b = cheapestNext(state, set, last);
                state.order[i] = b;
                set &= ~(1 << b);
                last = b;
            }
        }

        private void fillShares(State state) {
            for (int b = 0; b < state.frame.blocks; b++) {
                int row = b * (MOST_BLOCKS + 1);
                for (int follower = 0; follower < state.frame.blocks; follower++) {
                    shares[row + follower] = state.shareOfCost(b, follower);
                }
                shares[row + MOST_BLOCKS] = state.shareOfCost(b, NO_BLOCK);
            }
        }

        private void collectFreeBlocks(State state) {
            freeSet = 0;
            for (int i = 1; i < state.hot; i++) {
                freeSet |= 1 << state.order[i];
            }
        }

        private void fillSet(State state, int set) {
            for (int last = 0; last < state.frame.blocks; last++) {
                boolean isPlaced = last == 0 || contains(freeSet & ~set, last);
                if (isPlaced && set == 0) {
                    least[last] = shares[last * (MOST_BLOCKS + 1) + MOST_BLOCKS];
                } else if (isPlaced) {
                    int b = cheapestNext(state, set, last);
                    least[set * MOST_BLOCKS + last] = costThrough(set, last, b);
                }
            }
        }

        /**
         * Wants a set that is not empty, and all smaller sets filled. Block 0 is in no set, so that it
         * can stand for none so far; unlike NO_BLOCK it is an index of every row.
         */
        private int cheapestNext(State state, int set, int last) {
            int cheapest = 0;
            int cheapestCost = 0;
            for (int b = 1; b < state.frame.blocks; b++) {
                if (contains(set, b)) {
                    int throughCost = costThrough(set, last, b);
                    if (cheapest == 0 || throughCost < cheapestCost) {
                        cheapest = b;
                        cheapestCost = throughCost;
                    }
                }
            }
            return cheapest;
        }

        private int costThrough(int set, int last, int b) {
            int rest = set & ~(1 << b);
            return shares[last * (MOST_BLOCKS + 1) + b] + least[rest * MOST_BLOCKS + b];
        }

        private static boolean contains(int set, int b) {
            return (set >> b & 1) != 0;
        }
    }

    /** Where the blocks of a layout lie. */
    private static final class Placement {
        static int startOf(State state, int b) {
            int end = 0;
            for (int i = 0; i < state.frame.blocks; i++) {
                int start = startAt(state, i, end);
                if (state.order[i] == b) {
                    return start;
                }
                end = start + bytesAt(state, i);
            }
            return NO_SUCH_INDEX;
        }

        static int endOfCode(State state) {
            int end = 0;
            for (int i = 0; i < state.frame.blocks; i++) {
                end = startAt(state, i, end) + bytesAt(state, i);
            }
            return end;
        }

        private static int startAt(State state, int position, int endBefore) {
            if (position == state.hot) {
                return roundUp(endBefore, COLD_ALIGNMENT);
            }
            return isLoopHead(state, position) ? roundUp(endBefore, state.alignment) : endBefore;
        }

        private static int bytesAt(State state, int position) {
            int b = state.order[position];
            return state.frame.bytes[b] + state.branchBytesBefore(b, state.followerAt(position));
        }

        /** The loop has no round for a cold position, and none for a cold source. */
        private static boolean isLoopHead(State state, int position) {
            for (int i = position; i < state.hot; i++) {
                if (state.leadsTo(state.order[i], state.order[position])) {
                    return true;
                }
            }
            return false;
        }

        /** Every unit is a power of two, so that a mask does what a division would. */
        private static int roundUp(int bytes, int unit) {
            return (bytes + unit - 1) & -unit;
        }
    }

    /** The commands of a script, run on a state that may be spoilt. */
    private static final class Script {
        private static final int GROUP = 10000;

        static boolean isWellFormed(int n, long script) {
            return n >= 1 && n <= MOST_COMMANDS && script >= 0 && withoutLowest(script, n) == 0;
        }

        static int firstFailure(State state, int n, long script) {
            for (int i = 0; i < n; i++) {
                int group = (int) (withoutLowest(script, n - 1 - i) % GROUP);
                if (!succeeds(state, group)) {
                    return i;
                }
            }
            return NONE;
        }

        private static long withoutLowest(long script, int groups) {
            long rest = script;
            for (int i = 0; i < groups; i++) {
                rest /= GROUP;
            }
            return rest;
        }

        private static boolean succeeds(State state, int group) {
            int d2 = group / 100 % 10;
            int d3 = group / 10 % 10;
            int d4 = group % 10;
            switch (group / 1000) {
                case 1:
                    return d4 == 0 && exchanged(state, d2, d3);
                case 2:
                    return d4 == 0 && turned(state, d2, d3);
                case 3:
                    return d2 == 0 && divided(state, group % 100);
                case 4:
                    return state.frame.hasBlock(d2) && Placement.startOf(state, d2) == group % 100;
                case 5:
                    return state.totalCost() == group % 1000;
                case 6:
                    return Placement.endOfCode(state) == group % 1000;
                case 7:
                    return d3 == 0 && d4 == 0 && wentAround(state, d2);
                case 8:
                    return d4 == 0 && isFollowedBy(state, d2, d3);
                default:
                    return false;
            }
        }

        private static boolean exchanged(State state, int i, int j) {
            if (state.refusalToExchange(i, j) != ALLOWED) {
                return false;
            }
            state.exchange(i, j);
            return true;
        }

        private static boolean turned(State state, int first, int last) {
            if (state.refusalToTurn(first, last) != ALLOWED) {
                return false;
            }
            state.turn(first, last);
            return true;
        }

        private static boolean divided(State state, int threshold) {
            if (State.refusalToDivide(threshold) != ALLOWED) {
                return false;
            }
            state.divide(threshold);
            return true;
        }

        private static boolean wentAround(State state, int b) {
            if (state.refusalToGoAround(b) != ALLOWED) {
                return false;
            }
            state.goAround(b);
            return true;
        }

        private static boolean isFollowedBy(State state, int b, int c) {
            return state.frame.hasBlock(b) && state.frame.hasBlock(c) && state.followerOf(b) == c;
        }
    }

    /** The random execution. */
    private static final class Walk {
        private static final long FACTOR = 6364136223846793005L;
        private static final long SUMMAND = 1442695040888963407L;

        static int costOf(State state, long seed, int steps) {
            long x = seed;
            int b = 0;
            int sum = 0;
            for (int i = 0; i < steps; i++) {
                x = x * FACTOR + SUMMAND;
                if (state.exits[b] == 0) {
                    b = 0;
                } else {
                    int k = slotTaken(state, b, (int) (x >>> 33));
                    sum += state.passCost(b, k, state.followerOf(b));
                    b = state.target(b, k);
                }
            }
            return sum;
        }

        private static int slotTaken(State state, int b, int v) {
            if (state.exits[b] == 1) {
                return 0;
            }
            int both = state.count(b, 0) + state.count(b, 1);
            return both == 0 || v % both < state.count(b, 0) ? 0 : 1;
        }
    }
}
