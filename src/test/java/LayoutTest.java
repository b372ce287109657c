/** Promises 11 to 17. */
public final class LayoutTest {
    private static final String FOUR = "B4 10 32106204 21306 11304 42005302";
    private static final int[] FAR = {Integer.MIN_VALUE, -1, 4, 8, Integer.MAX_VALUE};

    public static void main(String[] args) {
        orderOfNumbers();
        afterASplit();
        conditionalOfTheGreaterCount();
        fallThroughInEitherSlot();
        loopHeads();
        coldBlocksAreNoLoopHeads();
        coldSectionStartsAt16();
        eightBlocks();
        wrongIndices();
        Check.end();
    }

    private static void orderOfNumbers() {
        BlockLayout x = Check.loaded(FOUR);
        Check.due("order", Check.order(x), "0123");
        Check.due("hotCount", x.hotCount(), 4);
        Check.due("cost", x.cost(), 12 + 12 + 0 + 19);
        Check.due("addresses", Check.addresses(x), "0 5 9 10 18");
        int[] bytes = {2, 2, 0, 4};
        int[] cost0 = {0, 2, 0, 3};
        int[] cost1 = {3, -1, -1, 2};
        for (int b = 0; b < 4; b++) {
            Check.due("branchBytes " + b, x.branchBytes(b), bytes[b]);
            Check.due("edgeCost " + b + " 0", x.edgeCost(b, 0), cost0[b]);
            Check.due("edgeCost " + b + " 1", x.edgeCost(b, 1), cost1[b]);
        }
        x.setAlignment(8);
        Check.due("addresses aligned to 8", Check.addresses(x), "0 5 9 16 24");
    }

    private static void afterASplit() {
        BlockLayout x = Check.loaded(FOUR);
        x.split(5);
        Check.due("order", Check.order(x), "013|2");
        Check.due("hotCount", x.hotCount(), 3);
        Check.due("cost", x.cost(), 12 + 0 + 19 + 8);
        Check.due("addresses", Check.addresses(x), "0 5 16 7 19");
        Check.due("last hot block has no follower", x.branchBytes(3), 4);
        Check.due("a cold jump", x.edgeCost(2, 0), 2);
        x.setAlignment(8);
        Check.due("addresses aligned to 8", Check.addresses(x), "0 5 16 8 19");
        x.setAlignment(16);
        Check.due("addresses aligned to 16", Check.addresses(x), "0 5 32 16 35");
        Check.due("blockAt", x.blockAt(2), 3);
    }

    private static void conditionalOfTheGreaterCount() {
        BlockLayout x = Check.loaded("B3 00 02105205 00 02005106");
        x.swap(1, 2);
        Check.due("order", Check.order(x), "021");
        Check.due("block 2 before block 1", x.branchBytes(2), 2);
        Check.due("conditional to 0", x.edgeCost(2, 0), 3);
        Check.due("fall through to 1", x.edgeCost(2, 1), 0);
        x = Check.loaded("B3 00 00 00 02005106");
        Check.due("greater count in slot 1", x.edgeCost(2, 1), 3);
        Check.due("smaller count in slot 0", x.edgeCost(2, 0), 2);
        Check.due("both branches", x.branchBytes(2), 4);
        Check.due("cost", x.cost(), 5 * 2 + 6 * 3);
        x.setCount(2, 1, 5);
        Check.due("equal counts, slot 0", x.edgeCost(2, 0), 3);
        Check.due("equal counts, slot 1", x.edgeCost(2, 1), 2);
        x.setCount(2, 1, 4);
        Check.due("greater count in slot 0", x.edgeCost(2, 0), 3);
        Check.due("smaller count in slot 1", x.edgeCost(2, 1), 2);
    }

    private static void fallThroughInEitherSlot() {
        BlockLayout x = Check.loaded("B3 00 02107299 00 00");
        Check.due("slot 0 falls through", x.edgeCost(0, 0), 0);
        Check.due("slot 1 is conditional", x.edgeCost(0, 1), 3);
        Check.due("cost", x.cost(), 297);
        x.swap(1, 2);
        Check.due("slot 0 is conditional", x.edgeCost(0, 0), 3);
        Check.due("slot 1 falls through", x.edgeCost(0, 1), 0);
        Check.due("cost of the swapped", x.cost(), 21);
    }

    private static void loopHeads() {
        BlockLayout x = Check.loaded("B5 00 11101 11201 11301 11100 32400000");
        x.setAlignment(4);
        Check.due("1 and 4 and 0 are heads", Check.addresses(x), "0 4 5 6 12 19");
        x.swap(1, 3);
        Check.due("order", Check.order(x), "03214");
        Check.due("heads are 0, 3, 2 and 4", Check.addresses(x), "0 11 8 4 16 23");
        x.setAlignment(1);
        Check.due("alignment 1", Check.addresses(x), "0 9 6 3 12 19");
        x.setAlignment(2);
        Check.due("alignment 2", Check.addresses(x), "0 11 8 4 14 21");
    }

    private static void coldBlocksAreNoLoopHeads() {
        BlockLayout x = Check.loaded("B3 00 21105 10 01100");
        x.setAlignment(8);
        Check.due("head of a later hot block", Check.addresses(x), "0 8 9 11");
        Check.due("split", x.split(1), 2);
        Check.due("a cold source makes no head", Check.addresses(x), "0 2 16 18");
        x = Check.loaded("B3 00 20 30 12200100");
        x.setAlignment(16);
        x.split(1);
        Check.due("order", Check.order(x), "0|12");
        Check.due("a cold block that leads to itself", Check.addresses(x), "0 16 19 24");
    }

    private static void coldSectionStartsAt16() {
        int[] sizes = {0, 1, 9};
        int[] starts = {0, 16, 16};
        for (int i = 0; i < sizes.length; i++) {
            BlockLayout x = Check.loaded("B2 00 " + sizes[i] + "0 50");
            x.split(1);
            Check.due("cold start behind " + sizes[i], x.address(1), starts[i]);
            Check.due("code size behind " + sizes[i], x.codeSize(), starts[i] + 5);
        }
        BlockLayout x = Check.loaded("B3 00 91109 70 30");
        x.split(1);
        Check.due("order", Check.order(x), "01|2");
        Check.due("16 is a multiple already", Check.addresses(x), "0 9 16 19");
    }

    private static void eightBlocks() {
        BlockLayout x = Check.loaded("B8 00 91120 91220 91320 91420 91509 91620 91709 91020");
        Check.due("addresses", Check.addresses(x), "0 9 18 27 36 45 54 63 74");
        x.split(10);
        Check.due("order", Check.order(x), "012346|57");
        Check.due("last hot block", x.branchBytes(6), 2);
        Check.due("last cold block", x.branchBytes(7), 2);
        Check.due("addresses of two sections", Check.addresses(x), "0 9 18 27 36 64 47 75 86");
        Check.due("cost", x.cost(), 18 + 40 + 18 + 40);
    }

    private static void wrongIndices() {
        BlockLayout x = Check.loaded(FOUR);
        for (int far : FAR) {
            Check.due("blockAt " + far, x.blockAt(far), BlockLayout.NO_SUCH_INDEX);
            Check.due("address " + far, x.address(far), BlockLayout.NO_SUCH_INDEX);
            Check.due("branchBytes " + far, x.branchBytes(far), BlockLayout.NO_SUCH_INDEX);
            Check.due("edgeCost of " + far, x.edgeCost(far, 0), BlockLayout.NO_SUCH_INDEX);
            Check.due("edgeCost slot " + far, x.edgeCost(0, far), BlockLayout.NO_SUCH_INDEX);
        }
        Check.due("slot 2", x.edgeCost(0, 2), BlockLayout.NO_SUCH_INDEX);
        Check.due("slot 1 of one successor", x.edgeCost(1, 1), BlockLayout.NO_SUCH_INDEX);
    }
}
