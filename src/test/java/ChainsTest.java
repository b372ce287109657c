/** Promises 18 and 21. */
public final class ChainsTest {
    public static void main(String[] args) {
        equalCounts();
        edgesThatMergeNothing();
        chainsOfSeveralBlocks();
        greaterCountsFirst();
        weightsGoBothWays();
        weightsGrowWithWhatIsPlaced();
        weightsAreSums();
        eightBlocks();
        allBlocksBecomeHot();
        wrongBlocks();
        Check.end();
    }

    private static String heads(BlockLayout x) {
        StringBuilder all = new StringBuilder();
        for (int b = 0; b < x.blockCount(); b++) {
            all.append(x.chainHead(b));
        }
        return all.toString();
    }

    private static void equalCounts() {
        Check.due("smaller block first", heads(Check.loaded("B3 00 01210 01210 00")), "010");
        Check.due("slot 0 first", heads(Check.loaded("B3 00 02110210 00 00")), "002");
        Check.due("slot 0 with the greater block", heads(Check.loaded("B3 00 02210110 00 00")), "010");
        Check.due("block before slot", heads(Check.loaded("B4 00 02099310 01310 00 00")), "0120");
    }

    private static void edgesThatMergeNothing() {
        Check.due("count 0", heads(Check.loaded("B2 00 01100 00")), "01");
        Check.due("to block 0", heads(Check.loaded("B2 00 00 01050")), "01");
        Check.due("to itself", heads(Check.loaded("B2 00 01099 01199")), "01");
        Check.due("the same chain", heads(Check.loaded("B3 00 01105 01209 01108")), "000");
        Check.due("not the first of its chain", heads(Check.loaded("B4 00 01205 01209 01308 00")), "0111");
        Check.due("not the last of its chain", heads(Check.loaded("B4 00 02109208 00 01305 00")), "0022");
    }

    private static void chainsOfSeveralBlocks() {
        BlockLayout x = Check.loaded("B5 00 01301 01209 00 01104 01002");
        Check.due("heads", heads(x), "00004");
        Check.due("orderByChains", x.orderByChains(), 4);
        Check.due("order", Check.order(x), "03124");
    }

    private static void greaterCountsFirst() {
        BlockLayout x = Check.loaded("B3 00 01210 01211 00");
        Check.due("greater count first", heads(x), "011");
        x.setCount(0, 0, 12);
        Check.due("by the present counts", heads(x), "010");
        x.swap(1, 2);
        x.split(99);
        Check.due("the layout does not matter", heads(x), "010");
        x.undo();
        x.undo();
        x.undo();
        Check.due("after undo", heads(x), "011");
    }

    private static void weightsGoBothWays() {
        BlockLayout x = Check.loaded("B5 00 02130304 01205 00 00 01007");
        Check.due("heads", heads(x), "00034");
        Check.due("cost", x.orderByChains(), 4 * 3 + 7 * 2);
        Check.due("order", Check.order(x), "01243");
        x.setCount(4, 0, 4);
        x.orderByChains();
        Check.due("equal weights", Check.order(x), "01234");
    }

    private static void weightsGrowWithWhatIsPlaced() {
        // Block 3 hangs on block 4 alone: it passes block 2 only once block 4 is placed.
        BlockLayout x = Check.loaded("B6 00 02120409 00 01001 00 02508305 00");
        Check.due("heads", heads(x), "002344");
        x.orderByChains();
        Check.due("order", Check.order(x), "014532");
    }

    private static void weightsAreSums() {
        // Block 5 has 3 + 3 from the first chain, block 4 has 5 once.
        BlockLayout x = Check.loaded("B6 00 02120503 02220503 02320405 00 00 00");
        Check.due("heads", heads(x), "000045");
        x.orderByChains();
        Check.due("order", Check.order(x), "012354");
        x = Check.loaded("B6 00 02120405 01220 01320 00 00 02003103");
        x.orderByChains();
        Check.due("out of the chain", Check.order(x), "012354");
    }

    private static void eightBlocks() {
        // Each leads back to the one before, so that the first chain is 0 7 6 5 4 3 2 1.
        BlockLayout x = Check.loaded("B8 00 02730120 02030210 02140310 02240410 02340510 02440610 02540710 02640010");
        Check.due("heads", heads(x), "00000000");
        Check.due("cost", x.orderByChains(), 60 + 110 + 6 * 30);
        Check.due("order", Check.order(x), "07654321");
        x = Check.loaded("B8 00" + "00".repeat(8));
        x.swap(1, 7);
        x.orderByChains();
        Check.due("eight chains", Check.order(x), "01234567");
        x = Check.loaded("B2 00 00 00");
        x.orderByChains();
        Check.due("two chains", Check.order(x), "01");
        x = Check.loaded("B3 00 01205 00 00");
        x.orderByChains();
        Check.due("a chain and one more", Check.order(x), "021");
    }

    private static void allBlocksBecomeHot() {
        BlockLayout x = Check.loaded("B4 00 01301 00 00 00");
        x.setAlignment(8);
        x.split(1);
        Check.due("split", Check.order(x), "03|12");
        x.swap(1, 3);
        Check.due("orderByChains", x.orderByChains(), 0);
        Check.due("all hot", Check.order(x), "0312");
        Check.due("alignment stays", x.setAlignment(1), 8);
        Check.due("it is an action", x.undo(), 4);
        x.undo();
        Check.due("undo of the order", Check.order(x), "02|13");
    }

    private static void wrongBlocks() {
        BlockLayout x = Check.loaded("B3 00 01210 01210 00");
        int[] far = {Integer.MIN_VALUE, -1, 3, 7, 8, Integer.MAX_VALUE};
        for (int b : far) {
            Check.due("chainHead " + b, x.chainHead(b), BlockLayout.NO_SUCH_INDEX);
        }
    }
}
