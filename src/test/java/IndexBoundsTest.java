import java.util.function.ToIntFunction;

/**
 * The section ERRORS for every method that takes a block, a slot or a position: promises 7 to 11,
 * 15 to 18, 20, 23, 24, 26 and 27.
 */
public final class IndexBoundsTest {
    private static final int[] FAR = {Integer.MIN_VALUE, -256, -2, 9, 16, 256, Integer.MAX_VALUE};

    public static void main(String[] args) {
        for (int n = 1; n <= 8; n++) {
            blocks(n);
            positions(n);
        }
        slotsThatABlockHas();
        slotThatABypassTook();
        blockBeforeSlot();
        positionsBeforeTheirConditions();
        blockBeforeItsConditions();
        edgeBeforeItsCount();
        Check.end();
    }

    /** Each block leads to block 0 alone; the sizes are 1 to n. */
    private static String setup(int n) {
        StringBuilder text = new StringBuilder("B").append(n).append("07");
        for (int b = 0; b < n; b++) {
            text.append(b + 1).append("1010");
        }
        return text.toString();
    }

    private static void missing(String what, String setup, ToIntFunction<BlockLayout> call) {
        Twins.unchanged(what, Twins.of(setup), call, BlockLayout.NO_SUCH_INDEX);
    }

    private static void allMissing(String setup, int b) {
        missing("size " + b, setup, x -> x.size(b));
        missing("successor " + b, setup, x -> x.successor(b, 0));
        missing("edgeCount " + b, setup, x -> x.edgeCount(b, 0));
        missing("executions " + b, setup, x -> x.executions(b));
        missing("address " + b, setup, x -> x.address(b));
        missing("branchBytes " + b, setup, x -> x.branchBytes(b));
        missing("edgeCost " + b, setup, x -> x.edgeCost(b, 0));
        missing("chainHead " + b, setup, x -> x.chainHead(b));
        missing("bypass " + b, setup, x -> x.bypass(b));
        missing("setCount " + b, setup, x -> x.setCount(b, 0, 5));
    }

    private static void blocks(int n) {
        Check.sentence("NO_SUCH_INDEX: an argument is not the number of a block (for b); 0 to n - 1");
        String setup = setup(n);
        allMissing(setup, -1);
        allMissing(setup, n);
        allMissing(setup, 8);
        for (int far : FAR) {
            allMissing(setup, far);
        }
        BlockLayout x = Check.loaded(setup);
        int[] taken = {0, n - 1};
        for (int b : taken) {
            Check.due("size " + b, x.size(b), b + 1);
            Check.due("successor " + b, x.successor(b, 0), 0);
            Check.due("edgeCount " + b, x.edgeCount(b, 0), 10);
            Check.due("executions " + b, x.executions(b), b == 0 ? 7 + 10 * n : 0);
            Check.due("address " + b, x.address(b), 2 * b + b * (b + 1) / 2);
            Check.due("branchBytes " + b, x.branchBytes(b), 2);
            Check.due("edgeCost " + b, x.edgeCost(b, 0), 2);
            Check.due("chainHead " + b, x.chainHead(b), b);
            Check.due("bypass " + b, x.bypass(b), BlockLayout.NOT_POSSIBLE);
            Check.due("setCount " + b, x.setCount(b, 0, 10), 10);
        }
    }

    private static void pairMissing(String setup, int i, int j) {
        missing("swap " + i + " " + j, setup, x -> x.swap(i, j));
        missing("rotate " + i + " " + j, setup, x -> x.rotate(i, j));
        missing("bestRotation " + i + " " + j, setup, x -> x.bestRotation(i, j));
    }

    private static void positions(int n) {
        Check.sentence("NO_SUCH_INDEX: not a position (for first, last, i and j); 0 to n - 1");
        String setup = setup(n);
        int[] wrong = {-1, n, 8, Integer.MIN_VALUE, Integer.MAX_VALUE, 256};
        for (int i : wrong) {
            missing("blockAt " + i, setup, x -> x.blockAt(i));
            pairMissing(setup, i, n - 1);
            pairMissing(setup, n - 1, i);
            pairMissing(setup, i, i);
        }
        BlockLayout x = Check.loaded(setup);
        Check.due("blockAt 0", x.blockAt(0), 0);
        Check.due("blockAt " + (n - 1), x.blockAt(n - 1), n - 1);
        int last = n - 1;
        boolean isFree = last > 0;
        Check.due("swap of the last", x.swap(last, last), isFree ? 20 * n : BlockLayout.NOT_POSSIBLE);
        Check.due("rotate the last", x.rotate(last, last), isFree ? 20 * n : BlockLayout.NOT_POSSIBLE);
        Check.due("bestRotation of the last", x.bestRotation(last, last), isFree ? 0 : BlockLayout.NOT_POSSIBLE);
    }

    private static void slotMissing(String setup, int b, int k) {
        missing("successor " + b + " " + k, setup, x -> x.successor(b, k));
        missing("edgeCount " + b + " " + k, setup, x -> x.edgeCount(b, k));
        missing("edgeCost " + b + " " + k, setup, x -> x.edgeCost(b, k));
        missing("setCount " + b + " " + k, setup, x -> x.setCount(b, k, 5));
    }

    private static void slotTaken(String setup, int b, int k, int successor, int count) {
        BlockLayout x = Check.loaded(setup);
        Check.due("successor " + b + " " + k, x.successor(b, k), successor);
        Check.due("edgeCount " + b + " " + k, x.edgeCount(b, k), count);
        Check.isTrue("edgeCost " + b + " " + k, x.edgeCost(b, k) >= 0);
        Check.due("setCount " + b + " " + k, x.setCount(b, k, 5), count);
        Check.due("edgeCount after it", x.edgeCount(b, k), 5);
    }

    private static void slotsThatABlockHas() {
        Check.sentence("NO_SUCH_INDEX: not a slot that the block has (for k); one successor: only slot 0");
        // Blocks 0 and 3 have two successors, block 1 has one, block 2 has none.
        String setup = "B4 00 12211322 11033 10 12144255";
        int[] slots = {2, 1, 0, 2};
        for (int b = 0; b < 4; b++) {
            slotMissing(setup, b, -1);
            for (int k = slots[b]; k <= 3; k++) {
                slotMissing(setup, b, k);
            }
            for (int far : FAR) {
                slotMissing(setup, b, far);
            }
        }
        slotTaken(setup, 0, 0, 2, 11);
        slotTaken(setup, 0, 1, 3, 22);
        slotTaken(setup, 1, 0, 0, 33);
        slotTaken(setup, 3, 0, 1, 44);
        slotTaken(setup, 3, 1, 2, 55);
    }

    private static void slotThatABypassTook() {
        Check.sentence("bypass: that block keeps only slot 0");
        String setup = "B3 00 02105207 01203 00";
        Check.due("slot 1 before", Check.loaded(setup).successor(0, 1), 2);
        ToIntFunction<BlockLayout> none = x -> x.successor(0, 1);
        Twins.unchanged("successor", x -> bypassed(x, setup), none, BlockLayout.NO_SUCH_INDEX);
        Twins.unchanged("edgeCount", x -> bypassed(x, setup), x -> x.edgeCount(0, 1), BlockLayout.NO_SUCH_INDEX);
        Twins.unchanged("edgeCost", x -> bypassed(x, setup), x -> x.edgeCost(0, 1), BlockLayout.NO_SUCH_INDEX);
        Twins.unchanged("setCount", x -> bypassed(x, setup), x -> x.setCount(0, 1, 5), BlockLayout.NO_SUCH_INDEX);
        Check.sentence("the successors and the counts are part of the state: undo gives the slot back");
        BlockLayout x = new BlockLayout();
        bypassed(x, setup);
        x.undo();
        Check.due("successor", x.successor(0, 1), 2);
        Check.due("edgeCount", x.edgeCount(0, 1), 7);
    }

    private static void bypassed(BlockLayout x, String setup) {
        Check.reload(x, setup);
        x.bypass(1);
    }

    private static void blockBeforeSlot() {
        Check.sentence("b and k are both wrong: NO_SUCH_INDEX");
        String setup = "B2 00 02105007 00";
        int[] wrong = {Integer.MIN_VALUE, -1, 2, Integer.MAX_VALUE};
        for (int b : wrong) {
            for (int k : wrong) {
                slotMissing(setup, b, k);
            }
        }
        // With two slots a block, (1, -1) and (-1, 2) would be places of block 0 in one row.
        slotMissing(setup, 1, -1);
        slotMissing(setup, -1, 2);
        slotMissing(setup, -1, 3);
        slotMissing(setup, 1, -2);
    }

    private static void positionsBeforeTheirConditions() {
        Check.sentence("swap, rotate, bestRotation: NO_SUCH_INDEX is listed before NOT_POSSIBLE");
        String setup = setup(4);
        int[] wrong = {-1, 4, Integer.MIN_VALUE, Integer.MAX_VALUE};
        for (int far : wrong) {
            pairMissing(setup, 0, far);
            pairMissing(setup, far, 0);
            pairMissing(setup, 3, far);
            pairMissing(setup, far, 3);
        }
    }

    private static void blockBeforeItsConditions() {
        Check.sentence("bypass: NO_SUCH_INDEX is listed before NOT_POSSIBLE");
        BlockLayout x = new BlockLayout();
        Check.due("bypass 0 of one block", x.bypass(0), BlockLayout.NOT_POSSIBLE);
        Check.due("bypass 1 of one block", x.bypass(1), BlockLayout.NO_SUCH_INDEX);
        Check.due("bypass -1 of one block", x.bypass(-1), BlockLayout.NO_SUCH_INDEX);
    }

    private static void edgeBeforeItsCount() {
        Check.sentence("setCount: NO_SUCH_INDEX is listed before BAD_VALUE");
        String setup = "B2 00 01105 00";
        int[] counts = {Integer.MIN_VALUE, -1, 100, Integer.MAX_VALUE};
        for (int c : counts) {
            missing("no block, count " + c, setup, x -> x.setCount(2, 0, c));
            missing("block -1, count " + c, setup, x -> x.setCount(-1, 0, c));
            missing("no slot, count " + c, setup, x -> x.setCount(0, 1, c));
            missing("slot -1, count " + c, setup, x -> x.setCount(0, -1, c));
            missing("no successors, count " + c, setup, x -> x.setCount(1, 0, c));
            Twins.unchanged("count " + c, Twins.of(setup), x -> x.setCount(0, 0, c), BlockLayout.BAD_VALUE);
        }
    }
}
