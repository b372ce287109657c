/** Promises 6 to 10. */
public final class FunctionTest {
    private static final int[] FAR = {Integer.MIN_VALUE, -2, -1, 8, 9, 16, Integer.MAX_VALUE};

    public static void main(String[] args) {
        blockCounts();
        answersOfEachBlock();
        wrongIndices();
        executionsFollowTheCounts();
        Check.end();
    }

    private static void blockCounts() {
        for (int n = 1; n <= 8; n++) {
            BlockLayout x = Check.loaded("B" + n + "00" + "00".repeat(n));
            Check.due("blockCount", x.blockCount(), n);
            Check.due("last block", x.size(n - 1), 0);
            Check.due("no block n", x.size(n), BlockLayout.NO_SUCH_INDEX);
        }
    }

    private static void answersOfEachBlock() {
        BlockLayout x = Check.loaded("B4 10 92106204 01399 11300 42005302");
        int[] sizes = {9, 0, 1, 4};
        int[] slot0 = {1, 3, 3, 0};
        int[] count0 = {6, 99, 0, 5};
        int[] slot1 = {2, -1, -1, 3};
        int[] count1 = {4, -1, -1, 2};
        int[] executions = {15, 6, 4, 101};
        for (int b = 0; b < 4; b++) {
            Check.due("size " + b, x.size(b), sizes[b]);
            Check.due("successor 0 of " + b, x.successor(b, 0), slot0[b]);
            Check.due("successor 1 of " + b, x.successor(b, 1), slot1[b]);
            Check.due("count 0 of " + b, x.edgeCount(b, 0), count0[b]);
            Check.due("count 1 of " + b, x.edgeCount(b, 1), count1[b]);
            Check.due("executions " + b, x.executions(b), executions[b]);
        }
    }

    private static void wrongIndices() {
        BlockLayout x = Check.loaded("B8 99" + "92099199".repeat(8));
        for (int far : FAR) {
            Check.due("size " + far, x.size(far), BlockLayout.NO_SUCH_INDEX);
            Check.due("executions " + far, x.executions(far), BlockLayout.NO_SUCH_INDEX);
            Check.due("successor of " + far, x.successor(far, 0), BlockLayout.NO_SUCH_INDEX);
            Check.due("successor slot " + far, x.successor(0, far), BlockLayout.NO_SUCH_INDEX);
            Check.due("count of " + far, x.edgeCount(far, 0), BlockLayout.NO_SUCH_INDEX);
            Check.due("count slot " + far, x.edgeCount(7, far), BlockLayout.NO_SUCH_INDEX);
        }
        Check.due("slot 2", x.successor(0, 2), BlockLayout.NO_SUCH_INDEX);
        Check.due("count of slot 2", x.edgeCount(0, 2), BlockLayout.NO_SUCH_INDEX);
        Check.due("executions of block 0", x.executions(0), 99 + 8 * 99);
        Check.due("executions of block 1", x.executions(1), 8 * 99);
    }

    private static void executionsFollowTheCounts() {
        BlockLayout x = Check.loaded("B3 20 11105 01206 30");
        x.setCount(0, 0, 50);
        Check.due("executions after setCount", x.executions(1), 50);
        Check.due("count after setCount", x.edgeCount(0, 0), 50);
        x.bypass(1);
        Check.due("executions of the bypassed block", x.executions(1), 0);
        Check.due("executions of its successor", x.executions(2), 50);
        Check.due("executions of the entry", x.executions(0), 20);
    }
}
