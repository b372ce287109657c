/** The edges of promises 11 to 13, 16 and 17 and of the sections LAYOUT and BRANCHES AND COST. */
public final class LayoutBoundsTest {
    public static void main(String[] args) {
        positions();
        block0StaysFirst();
        hotCounts();
        afterALoad();
        followersAtTheBorder();
        lastBlocksHaveNoFollower();
        noSuccessors();
        oneSuccessor();
        ownSuccessor();
        twoSuccessorsAndAFollower();
        twoSuccessorsWithoutAFollower();
        twoSuccessorsAtTheBorder();
        leastAndGreatestCost();
        queriesChangeNothing();
        Check.end();
    }

    /** Block b leads to block b + 1; the executions of blocks 1, 2, .. are 80, 70, .. */
    private static String line(int n) {
        StringBuilder text = new StringBuilder("B").append(n).append("00");
        for (int b = 0; b < n - 1; b++) {
            text.append("11").append(b + 1).append(80 - 10 * b);
        }
        return text.append("10").toString();
    }

    private static void positions() {
        Check.sentence("each block has a position from 0 to n - 1");
        for (int n = 1; n <= 8; n++) {
            BlockLayout x = Check.loaded(line(n));
            Check.due("blockAt -1", x.blockAt(-1), BlockLayout.NO_SUCH_INDEX);
            for (int i = 0; i < n; i++) {
                Check.due("blockAt " + i, x.blockAt(i), i);
            }
            Check.due("blockAt " + n, x.blockAt(n), BlockLayout.NO_SUCH_INDEX);
        }
    }

    private static void block0StaysFirst() {
        Check.sentence("block 0 always has position 0");
        // Everything draws the other blocks to the front: no entry, no edge from 0, heavy edges to 0.
        BlockLayout x = Check.loaded("B4 00 00 02099299 02099399 02099199");
        x.orderByChains();
        Check.due("orderByChains", Check.order(x), "0123");
        x.orderOptimally();
        Check.due("orderOptimally", x.blockAt(0), 0);
        x.rotate(1, 3);
        Check.due("rotate", x.blockAt(0), 0);
        x.setCount(1, 0, 0);
        x.setCount(2, 0, 0);
        x.setCount(3, 0, 0);
        Check.due("executions of 0", x.executions(0), 0);
        Check.due("split", x.split(1), 4);
        Check.due("a cold entry block stays first", x.blockAt(0), 0);
        Check.due("split at 99", x.split(99), 4);
        Check.due("swap with it", x.swap(0, 1), BlockLayout.NOT_POSSIBLE);
        Check.due("still first", x.blockAt(0), 0);
    }

    private static void hotCounts() {
        Check.sentence("h, the hot count, is from 1 to n");
        for (int n = 1; n <= 8; n++) {
            for (int h = 1; h <= n; h++) {
                BlockLayout x = Check.loaded(line(n));
                int threshold = h == 1 ? 99 : 100 - 10 * h;
                Check.due("split " + threshold, x.split(threshold), h);
                Check.due("hotCount", x.hotCount(), h);
                Check.due("order", Check.order(x).replace("|", ""), "01234567".substring(0, n));
            }
        }
    }

    private static void afterALoad() {
        Check.sentence("after a setup is loaded, each block has its number as its position, and all blocks are hot");
        for (int n = 1; n <= 8; n++) {
            BlockLayout x = Check.loaded(line(8));
            x.rotate(1, 7);
            x.split(99);
            Check.reload(x, line(n));
            Check.due("order", Check.order(x), "01234567".substring(0, n));
            Check.due("hotCount", x.hotCount(), n);
        }
    }

    private static void followersAtTheBorder() {
        Check.sentence("the block at the next position if both positions are in the same section");
        for (int h = 1; h <= 8; h++) {
            BlockLayout x = Check.loaded(line(8));
            x.split(h == 1 ? 99 : 100 - 10 * h);
            for (int b = 0; b < 7; b++) {
                boolean isLastHot = b == h - 1;
                Check.due("edgeCost " + b + " with " + h, x.edgeCost(b, 0), isLastHot ? 2 : 0);
                Check.due("branchBytes " + b + " with " + h, x.branchBytes(b), isLastHot ? 2 : 0);
            }
            Check.due("cost with " + h, x.cost(), h == 8 ? 0 : 2 * (80 - 10 * (h - 1)));
        }
    }

    private static void lastBlocksHaveNoFollower() {
        Check.sentence("otherwise the block has no follower");
        // The last block leads to block 0, which would be next if the layout went round.
        BlockLayout x = Check.loaded("B2 00 01105 01005");
        Check.due("last of all", x.edgeCost(1, 0), 2);
        Check.due("first", x.edgeCost(0, 0), 0);
        x.setCount(0, 0, 0);
        x.split(1);
        Check.due("order", Check.order(x), "0|1");
        Check.due("last hot", x.edgeCost(0, 0), 2);
        Check.due("last cold", x.edgeCost(1, 0), 2);
        x = Check.loaded("B3 00 01100 01200 01100");
        x.split(1);
        Check.due("order", Check.order(x), "0|12");
        Check.due("the last cold block does not go round to the first cold one", x.edgeCost(2, 0), 2);
        Check.due("the only hot block", x.edgeCost(0, 0), 2);
        Check.due("inside the cold section", x.edgeCost(1, 0), 0);
    }

    private static void noSuccessors() {
        Check.sentence("a block without successors needs no branch");
        BlockLayout x = Check.loaded("B3 00 00 00 00");
        for (int b = 0; b < 3; b++) {
            Check.due("branchBytes " + b, x.branchBytes(b), 0);
        }
        x.split(1);
        for (int b = 0; b < 3; b++) {
            Check.due("branchBytes " + b + " of " + Check.order(x), x.branchBytes(b), 0);
        }
    }

    private static void oneSuccessor() {
        Check.sentence("no branch if the successor is its follower; otherwise it ends with a jump");
        for (int successor = 0; successor < 4; successor++) {
            BlockLayout x = Check.loaded("B4 00 00 01" + successor + "07 00 00");
            boolean falls = successor == 2;
            Check.due("branchBytes for " + successor, x.branchBytes(1), falls ? 0 : 2);
            Check.due("edgeCost for " + successor, x.edgeCost(1, 0), falls ? 0 : 2);
            Check.due("cost for " + successor, x.cost(), falls ? 0 : 14);
        }
    }

    private static void ownSuccessor() {
        Check.sentence("a block is never its own follower, so that its own edge is a branch");
        BlockLayout x = Check.loaded("B1 00 01005");
        Check.due("one block", x.edgeCost(0, 0), 2);
        Check.due("branchBytes", x.branchBytes(0), 2);
        x = Check.loaded("B2 00 02007105 02107009");
        Check.due("own edge beside the follower", x.edgeCost(0, 0), 3);
        Check.due("bytes beside the follower", x.branchBytes(0), 2);
        Check.due("own edge of the smaller count", x.edgeCost(1, 0), 2);
        Check.due("the other edge", x.edgeCost(1, 1), 3);
        Check.due("bytes of both", x.branchBytes(1), 4);
    }

    private static void followerIn(int slot, int falling, int other) {
        String fall = "2" + String.format("%02d", falling);
        String branch = "0" + String.format("%02d", other);
        BlockLayout x = Check.loaded("B3 00 00 02" + (slot == 0 ? fall + branch : branch + fall) + " 00");
        String what = " with counts " + falling + " and " + other;
        Check.due("follower in slot " + slot + what, x.edgeCost(1, slot), 0);
        Check.due("other in slot " + (1 - slot) + what, x.edgeCost(1, 1 - slot), 3);
        Check.due("branchBytes" + what, x.branchBytes(1), 2);
        Check.due("cost" + what, x.cost(), 3 * other);
    }

    private static void twoSuccessorsAndAFollower() {
        Check.sentence("two successors, one of which is its follower, ends with a conditional branch to the other one");
        int[][] counts = {{0, 0}, {0, 1}, {1, 0}, {49, 50}, {50, 50}, {51, 50}, {0, 99}, {99, 0}, {99, 99}};
        for (int[] pair : counts) {
            followerIn(0, pair[0], pair[1]);
            followerIn(1, pair[0], pair[1]);
        }
    }

    private static void twoSuccessorsWithoutAFollower() {
        Check.sentence("to the successor whose edge has the greater count, and for equal counts to slot 0");
        int[][] counts = {{0, 0}, {0, 1}, {1, 0}, {49, 50}, {50, 50}, {51, 50}, {0, 99}, {99, 0}, {98, 99}, {99, 99}};
        for (int[] pair : counts) {
            BlockLayout x = Check.loaded("B3 00 00 00 02" + String.format("0%02d1%02d", pair[0], pair[1]));
            boolean slot1 = pair[1] > pair[0];
            String what = " with counts " + pair[0] + " and " + pair[1];
            Check.due("slot 0" + what, x.edgeCost(2, 0), slot1 ? 2 : 3);
            Check.due("slot 1" + what, x.edgeCost(2, 1), slot1 ? 3 : 2);
            Check.due("branchBytes" + what, x.branchBytes(2), 4);
            Check.due("cost" + what, x.cost(), pair[0] * (slot1 ? 2 : 3) + pair[1] * (slot1 ? 3 : 2));
        }
        Check.sentence("for equal counts to the successor in slot 0, whatever its number");
        BlockLayout x = Check.loaded("B3 00 00 00 02150050");
        Check.due("slot 0 with the greater number", x.edgeCost(2, 0), 3);
        Check.due("slot 1 with the smaller number", x.edgeCost(2, 1), 2);
        x.setCount(2, 1, 51);
        Check.due("slot 0 after setCount", x.edgeCost(2, 0), 2);
        Check.due("slot 1 after setCount", x.edgeCost(2, 1), 3);
    }

    private static void twoSuccessorsAtTheBorder() {
        Check.sentence("no follower over the border of the sections, for two successors too");
        BlockLayout x = Check.loaded("B3 00 02140205 20 30");
        Check.due("all hot", x.branchBytes(0), 2);
        x.split(40);
        Check.due("order", Check.order(x), "01|2");
        Check.due("follower in the hot section", x.branchBytes(0), 2);
        x.split(41);
        Check.due("order", Check.order(x), "0|12");
        Check.due("no follower", x.branchBytes(0), 4);
        Check.due("conditional", x.edgeCost(0, 0), 3);
        Check.due("jump", x.edgeCost(0, 1), 2);
        Check.due("cost", x.cost(), 3 * 40 + 2 * 5);
    }

    private static void leastAndGreatestCost() {
        Check.sentence("the cost of the layout is the sum over all edges of the count times the cost of one execution");
        Check.due("no edges", Check.loaded("B8 99" + "90".repeat(8)).cost(), 0);
        Check.due("counts of 0", Check.loaded("B8 99" + "92000100".repeat(8)).cost(), 0);
        Check.due("count 1", Check.loaded("B2 00 01001 00").cost(), 2);
        // Nobody leads to its follower: 0 leads to itself and 2, the others to 0 and themselves.
        StringBuilder text = new StringBuilder("B8 99 92099299");
        for (int b = 1; b < 8; b++) {
            text.append("92099").append(b).append("99");
        }
        Check.due("greatest", Check.loaded(text.toString()).cost(), 8 * 99 * (3 + 2));
    }

    private static void queriesChangeNothing() {
        Check.sentence("only the methods in the section \"actions\" change the state");
        Twins.unchanged("blockCount", Twins.RICH, BlockLayout::blockCount, 4);
        Twins.unchanged("hotCount", Twins.RICH, BlockLayout::hotCount, 3);
        // 0 3 1|2: 0 has no follower (150 + 8), 3 leads to 0 and itself (15 + 4), 1 and 2 jump.
        Twins.unchanged("cost", Twins.RICH, BlockLayout::cost, 150 + 8 + 15 + 4 + 12 + 8);
        Twins.unchanged("codeSize", Twins.RICH, BlockLayout::codeSize, 35);
        Twins.unchanged("address", Twins.RICH, x -> x.address(2), 32);
        Twins.unchanged("branchBytes", Twins.RICH, x -> x.branchBytes(0), 4);
        Twins.unchanged("edgeCost", Twins.RICH, x -> x.edgeCost(0, 0), 3);
        Twins.unchanged("chainHead", Twins.RICH, x -> x.chainHead(3), 0);
        Twins.unchanged("optimalCost", Twins.RICH, BlockLayout::optimalCost, 12 + 19 + 0 + 8);
        Twins.unchanged("bestRotation", Twins.RICH, x -> x.bestRotation(1, 2), 1);
        Twins.unchanged("executions", Twins.RICH, x -> x.executions(1), 50);
    }
}
