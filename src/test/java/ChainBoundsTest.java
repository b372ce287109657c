/** The edges of promises 18 and 21 and of the section CHAINS. */
public final class ChainBoundsTest {
    public static void main(String[] args) {
        singleBlocks();
        countsGreaterThan0();
        fallingCounts();
        equalCountsOfBlocks();
        equalCountsOfSlots();
        whateverTheLayout();
        lastOfItsChain();
        firstOfItsChain();
        differentChains();
        neverToBlock0();
        chainOfAllBlocks();
        chainOfBlock0First();
        greatestWeight();
        equalWeights();
        weightsOfAnyPlacedBlock();
        weightsOf0();
        weightsWithPlacedBlocksOnly();
        allBecomeHot();
        oneBlock();
        emptyAfterABypass();
        orderedAgain();
        Check.end();
    }

    private static void heads(String what, String setup, String want) {
        headsOf(what, Check.loaded(setup), want);
    }

    private static void headsOf(String what, BlockLayout x, String want) {
        StringBuilder all = new StringBuilder();
        int n = x.blockCount();
        for (int b = 0; b < n; b++) {
            all.append(x.chainHead(b));
        }
        Check.due("heads, " + what, all.toString(), want);
    }

    private static void chainOrder(String what, String setup, String want) {
        BlockLayout x = Check.loaded(setup);
        int answer = x.orderByChains();
        Check.due("order, " + what, Check.order(x), want);
        Check.due("the answer is the cost, " + what, answer, x.cost());
    }

    private static void singleBlocks() {
        Check.sentence("at first each block is a chain of its own");
        for (int n = 1; n <= 8; n++) {
            heads("no edges", "B" + n + "00" + "00".repeat(n), "01234567".substring(0, n));
        }
    }

    private static void countsGreaterThan0() {
        Check.sentence("all edges with a count greater than 0 are taken");
        heads("count 0", "B2 00 01100 00", "01");
        heads("count 1", "B2 00 01101 00", "00");
        heads("count 99", "B2 00 01199 00", "00");
        BlockLayout x = Check.loaded("B2 00 01101 00");
        x.setCount(0, 0, 0);
        headsOf("set to 0", x, "01");
        x.setCount(0, 0, 1);
        headsOf("set to 1", x, "00");
    }

    private static void fallingCounts() {
        Check.sentence("in the order of falling counts");
        heads("49 against 50", "B3 00 01249 01250 00", "011");
        heads("51 against 50", "B3 00 01251 01250 00", "010");
        heads("98 against 99", "B3 00 01298 01299 00", "011");
        heads("9 against 10", "B3 00 01209 01210 00", "011");
        heads("1 against 2 in one block", "B3 00 02101202 00 00", "010");
        heads("2 against 1 in one block", "B3 00 02102201 00 00", "002");
    }

    private static void equalCountsOfBlocks() {
        Check.sentence("for equal counts the edge of the block with the smaller number comes first");
        heads("0 before 1", "B3 00 01250 01250 00", "010");
        heads("1 before 3", "B4 00 00 01250 00 01250", "0113");
        heads("slot 1 of 0 before slot 0 of 1", "B4 00 02050350 01350 00 00", "0120");
        heads("by source, not by target", "B3 00 00 01250 01150", "011");
    }

    private static void equalCountsOfSlots() {
        Check.sentence("for the same block slot 0 comes first");
        heads("slot 0 to the smaller", "B3 00 02150250 00 00", "002");
        heads("slot 0 to the greater", "B3 00 02250150 00 00", "010");
    }

    private static void whateverTheLayout() {
        Check.sentence("the block with the smaller number, not the smaller position; all blocks, hot or cold");
        BlockLayout x = Check.loaded("B5 00 00 01350 01350 01450 00");
        headsOf("by numbers", x, "01211");
        x.swap(1, 2);
        headsOf("2 before 1 in the layout", x, "01211");
        Check.due("split", x.split(99), 2);
        headsOf("3 alone is hot", x, "01211");
        x.setCount(1, 0, 49);
        Check.due("split", x.split(99), 2);
        headsOf("one less", x, "01222");
        x.setCount(2, 0, 48);
        Check.due("split", x.split(99), 1);
        headsOf("all others cold", x, "01211");
        x.orderByChains();
        Check.due("order", Check.order(x), "01342");
    }

    private static void lastOfItsChain() {
        Check.sentence("if its block is the last block of a chain");
        // 0 1 is a chain by then, and 0 is not its last block.
        heads("not the last", "B3 00 02105204 00 00", "002");
        heads("the last", "B3 00 01105 01204 00", "000");
    }

    private static void firstOfItsChain() {
        Check.sentence("its successor is the first block of a different chain");
        heads("not the first", "B4 00 01204 01205 00 00", "0113");
        heads("the first", "B4 00 01104 01205 00 00", "0003");
    }

    private static void differentChains() {
        Check.sentence("of a different chain");
        heads("itself", "B2 00 00 01199", "01");
        heads("its own chain of two", "B3 00 00 01205 01104", "011");
        heads("its own chain of three", "B4 00 00 01205 01304 01103", "0111");
        heads("a different chain", "B4 00 00 01205 01304 00", "0111");
    }

    private static void neverToBlock0() {
        Check.sentence("and the successor is not block 0");
        heads("to 0", "B2 00 00 01099", "01");
        heads("to 0 from each", "B4 00 00 01099 01098 01097", "0123");
        heads("0 to itself", "B2 00 01099 00", "01");
        heads("to 1", "B3 00 00 00 01199", "022");
    }

    private static void chainOfAllBlocks() {
        Check.sentence("the chain of the successor is appended to the chain of the block");
        heads("eight in a line", "B8 00 01199 01298 01397 01496 01595 01694 01793 00", "00000000");
        heads("joined from behind", "B8 00 01110 01220 01330 01440 01550 01660 01770 00", "00000000");
        heads("backwards", "B8 00 01710 00 01120 01230 01340 01450 01560 01670", "00000000");
        chainOrder("backwards", "B8 00 01710 00 01120 01230 01340 01450 01560 01670", "07654321");
    }

    private static void chainOfBlock0First() {
        Check.sentence("the chain that contains block 0 comes first");
        chainOrder("heavier chains", "B4 00 00 01299 01399 01199", "0123");
        chainOrder("its whole chain", "B4 00 01301 01299 00 00", "0312");
    }

    private static void greatestWeight() {
        Check.sentence("the chain with the greatest weight comes next");
        // 0 1 is the first chain; 0 leads to 2, and 3 leads to 0, by counts that differ by one.
        chainOrder("smaller number, smaller weight", "B4 00 02199250 00 00 01051", "0132");
        chainOrder("smaller number, greater weight", "B4 00 02199251 00 00 01050", "0123");
        Check.sentence("edges that lead from a block that is placed already to a block of the chain");
        chainOrder("not the first block of the chain", "B5 00 02199308 00 01399 00 01007", "01234");
        chainOrder("less than the other", "B5 00 02199306 00 01399 00 01007", "01423");
        Check.sentence("and of all edges that lead from a block of the chain to a block that is placed already");
        chainOrder("both ways, 5 + 5 against 9", "B5 00 02199305 00 00 01005 01009", "01342");
        chainOrder("both ways, 5 + 5 against 11", "B5 00 02199305 00 00 01005 01011", "01432");
    }

    private static void equalWeights() {
        Check.sentence("among equal weights, it is the chain whose first block has the smallest number");
        chainOrder("3 and 4", "B5 00 02199450 00 00 01050 00", "01342");
        // The chain 4 1 has the first block 4, though it holds the smallest number of all.
        chainOrder("first block 4 against 2", "B5 00 01399 00 01050 00 02199050", "03241");
        chainOrder("first block 4 against 2, one more", "B5 00 01399 00 01050 00 02199051", "03412");
    }

    private static void weightsOfAnyPlacedBlock() {
        Check.sentence("the weight counts edges from and to every block that is placed already, not block 0 alone");
        // The first chain is 0 1 2; 1 leads to 4, and 3 leads to 1.
        chainOrder("30 out against 29 in", "B5 00 01199 02298429 00 01130 00", "01234");
        chainOrder("30 out against 30 in", "B5 00 01199 02298430 00 01130 00", "01234");
        chainOrder("30 out against 31 in", "B5 00 01199 02298431 00 01130 00", "01243");
        // 4 leads to 1, the last of the first chain, and 3 leads to 0.
        chainOrder("30 to 0 against 31 to 1", "B5 00 01199 00 00 01030 01131", "01432");
        chainOrder("30 to 0 against 30 to 1", "B5 00 01199 00 00 01030 01130", "01342");
    }

    private static void weightsOf0() {
        Check.sentence("as long as chains are left");
        chainOrder("all weights 0", "B8 00" + "00".repeat(8), "01234567");
        BlockLayout x = Check.loaded("B8 00" + "00".repeat(8));
        x.swap(1, 7);
        x.swap(2, 5);
        x.orderByChains();
        Check.due("by numbers, not by positions", Check.order(x), "01234567");
        chainOrder("a weight of 1", "B5 00 00 00 00 00 01001", "04123");
        chainOrder("edges of count 0 weigh nothing", "B5 00 01400 00 00 00 01000", "01234");
    }

    private static void weightsWithPlacedBlocksOnly() {
        Check.sentence("the weight of a chain counts blocks that are placed already");
        // 3 and 4 lead to each other by 99 and would come first if unplaced blocks counted.
        chainOrder("edges among the others", "B5 00 02199201 00 00 02499001 01399", "01234");
        // The chain 2 5 comes first; only then the edge from 2 to 4 counts against the 20 of 3.
        chainOrder("21 against 20", "B6 00 02199240 00 02550421 01020 00 00", "012543");
        chainOrder("20 against 20", "B6 00 02199240 00 02550420 01020 00 00", "012534");
        chainOrder("19 against 20", "B6 00 02199240 00 02550419 01020 00 00", "012534");
        chainOrder("before it is placed", "B6 00 02199240 00 02550449 01041 00 00", "013254");
    }

    private static void allBecomeHot() {
        Check.sentence("orderByChains: all blocks become hot; the alignment stays");
        for (int threshold = 1; threshold <= 99; threshold += 49) {
            BlockLayout x = Check.loaded("B4 00 00 00 00 00");
            x.setAlignment(16);
            Check.due("split", x.split(threshold), 1);
            x.swap(1, 3);
            Check.due("orderByChains", x.orderByChains(), 0);
            Check.due("order", Check.order(x), "0123");
            Check.due("hotCount", x.hotCount(), 4);
            Check.due("alignment", x.setAlignment(1), 16);
        }
    }

    private static void oneBlock() {
        Check.sentence("orderByChains: returns the cost of the new layout");
        Check.due("new object", new BlockLayout().orderByChains(), 0);
        BlockLayout x = Check.loaded("B1 00 01099");
        Check.due("one block with a loop", x.orderByChains(), 198);
        Check.due("its chain", x.chainHead(0), 0);
        Check.due("an action though nothing moves", x.undo(), 0);
    }

    private static void emptyAfterABypass() {
        Check.sentence("chains are merged by the present successors and counts");
        BlockLayout x = Check.loaded("B3 00 01150 01205 00");
        headsOf("before", x, "000");
        x.bypass(1);
        headsOf("after the bypass", x, "010");
        x.orderByChains();
        Check.due("order", Check.order(x), "021");
        x.undo();
        x.undo();
        headsOf("after undo", x, "000");
    }

    private static void orderedAgain() {
        Check.sentence("orderByChains: replaces the layout by the chain order, each time anew");
        BlockLayout x = Check.loaded("B4 00 02150349 00 01020 00");
        x.orderByChains();
        Check.due("3 has 49, 2 has 20", Check.order(x), "0132");
        x.setCount(2, 0, 50);
        x.orderByChains();
        Check.due("3 has 49, 2 has 50", Check.order(x), "0123");
        x.setCount(2, 0, 49);
        x.setCount(0, 1, 51);
        x.orderByChains();
        Check.due("0 3 is a chain now", Check.order(x), "0312");
    }
}
