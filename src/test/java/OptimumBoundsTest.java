import java.util.function.Consumer;

/** The edges of promises 19, 20 and 22 and of the section OPTIMAL LAYOUTS. */
public final class OptimumBoundsTest {
    public static void main(String[] args) {
        oneHotBlock();
        twoHotBlocks();
        allHot();
        block0StaysFirst();
        coldSectionStays();
        hotSetStays();
        smallestSequence();
        optimumIsPresent();
        refusedRanges();
        rangesOfOneBlock();
        everyBestRotation();
        smallestOfEqualRotations();
        rotationsInsideTheHotSection();
        Check.end();
    }

    private static void optimum(String what, BlockLayout x, int cost, String order) {
        Check.due("orderOptimally, " + what, x.orderOptimally(), cost);
        Check.due("cost, " + what, x.cost(), cost);
        Check.due("order, " + what, Check.order(x), order);
        x.undo();
        Check.due("optimalCost, " + what, x.optimalCost(), cost);
        Check.due("orderOptimally behind it, " + what, x.orderOptimally(), cost);
    }

    private static void oneHotBlock() {
        Check.sentence("the candidate layouts: with one hot block there is but the present layout");
        optimum("new object", new BlockLayout(), 0, "0");
        optimum("one block", Check.loaded("B1 00 01099"), 198, "0");
        BlockLayout x = Check.loaded("B8 00 01120 01220 01320 01420 01520 01620 01720 01020");
        x.split(21);
        x.swap(1, 7);
        // 0|7234561: lost are 0 1, 1 2, 6 7 and 7 0.
        optimum("h is 1", x, 4 * 40, "0|7234561");
    }

    private static void twoHotBlocks() {
        Check.sentence("block 0 at position 0: two hot blocks have one order");
        optimum("falling through", Check.loaded("B2 00 01150 01060"), 120, "01");
        optimum("nothing to gain", Check.loaded("B2 00 00 01099"), 198, "01");
    }

    private static void allHot() {
        Check.sentence("the optimal cost is the smallest cost of a candidate layout");
        optimum("three blocks", Check.loaded("B3 00 01209 00 01109"), 0, "021");
        optimum("eight blocks backwards", Check.loaded("B8 00 01710 00 01120 01230 01340 01450 01560 01670"), 0,
            "07654321");
        optimum("greatest counts", Check.loaded("B8 99" + "92099199".repeat(8)), 297 + 7 * 495, "01234567");
    }

    private static void block0StaysFirst() {
        Check.sentence("with block 0 at position 0");
        // 1 0 would cost nothing, but 0 can't follow.
        optimum("edges to 0", Check.loaded("B3 00 00 01099 01098"), 2 * (99 + 98), "012");
    }

    private static void coldSectionStays() {
        Check.sentence("the same cold section in the same order as the present layout");
        BlockLayout x = Check.loaded("B5 00 01250 00 01150 01305 00");
        Check.due("split", x.split(50), 3);
        Check.due("order", Check.order(x), "012|34");
        optimum("hot section alone", x, 10, "021|34");
        x.swap(3, 4);
        optimum("cold section turned round", x, 10, "021|43");
        x = Check.loaded("B4 00 01150 00 01305 01205");
        Check.due("split", x.split(6), 2);
        optimum("cold fall through", x, 10, "01|23");
        x.swap(2, 3);
        optimum("cold fall through the other way", x, 10, "01|32");
    }

    private static void hotSetStays() {
        Check.sentence("the same hot section as a set of blocks, the same hot count");
        BlockLayout x = Check.loaded("B4 00 01350 00 00 01205");
        Check.due("split", x.split(5), 3);
        Check.due("order", Check.order(x), "023|1");
        optimum("0 3 2", x, 0, "032|1");
        x.swap(1, 3);
        Check.due("3 is cold now", Check.order(x), "012|3");
        optimum("3 can't come back", x, 100 + 10, "012|3");
    }

    private static void smallestSequence() {
        Check.sentence("the candidate layout with the optimal cost whose sequence of block numbers is lexicographically smallest");
        BlockLayout x = Check.loaded("B8 00" + "00".repeat(8));
        for (int i = 1; i < 4; i++) {
            x.swap(i, 8 - i);
        }
        Check.due("order", Check.order(x), "07654321");
        optimum("all equal", x, 0, "01234567");
        x = Check.loaded("B4 00 02350250 00 00 00");
        optimum("2 or 3 behind 0", x, 150, "0213");
        x = Check.loaded("B4 00 02351250 00 00 00");
        optimum("3 is cheaper by one", x, 150, "0312");
        x = Check.loaded("B5 00 00 00 00 01205 00");
        optimum("3 2 as early as it may come", x, 0, "01324");
        x = Check.loaded("B5 00 00 00 00 00 01105");
        optimum("4 1 as late as it must come", x, 0, "02341");
        x = Check.loaded("B6 00 00 01205 00 01205 00 00");
        optimum("1 2 or 3 2", x, 10, "012345");
        x.swap(1, 5);
        x.rotate(1, 5);
        optimum("from another layout", x, 10, "012345");
    }

    private static void optimumIsPresent() {
        Check.sentence("each successful call is an action, even if the state stays equal");
        BlockLayout x = Check.loaded("B3 00 01109 01209 00");
        optimum("present", x, 0, "012");
        Check.due("orderOptimally again", x.orderOptimally(), 0);
        Check.due("two actions", x.undo(), 1);
        Twins.unchanged("optimalCost", Twins.of("B3 00 01209 00 01109"), BlockLayout::optimalCost, 0);
        Twins.unchanged("bestRotation", Twins.of("B3 00 01209 00 01109"), y -> y.bestRotation(1, 2), 1);
    }

    private static void range(Consumer<BlockLayout> steps, int first, int last, int want) {
        Twins.unchanged("bestRotation " + first + " " + last, steps, x -> x.bestRotation(first, last), want);
    }

    private static void refusedRanges() {
        Check.sentence("NOT_POSSIBLE if first is 0, if first is greater than last, or if last is in the cold section");
        for (int h = 1; h <= 5; h++) {
            int threshold = 60 - 10 * h;
            Consumer<BlockLayout> steps = x -> {
                Check.reload(x, "B5 00 01140 01230 01320 01410 00");
                x.split(threshold);
            };
            for (int first = -1; first <= 5; first++) {
                for (int last = -1; last <= 5; last++) {
                    boolean exists = first >= 0 && first < 5 && last >= 0 && last < 5;
                    boolean fits = first > 0 && first <= last && last < h;
                    int refusal = exists ? BlockLayout.NOT_POSSIBLE : BlockLayout.NO_SUCH_INDEX;
                    range(steps, first, last, exists && fits ? 0 : refusal);
                }
            }
        }
    }

    private static void rangesOfOneBlock() {
        Check.sentence("the rotation by 0 leaves the layout as it is");
        BlockLayout x = Check.loaded("B8 00" + "01009".repeat(8));
        for (int i = 1; i < 8; i++) {
            Check.due("bestRotation " + i, x.bestRotation(i, i), 0);
        }
    }

    private static void everyBestRotation() {
        Check.sentence("the best rotation is the r from 0 to d - 1 ..");
        // Only the edge from 0 counts: the best rotation brings its successor to position 1.
        for (int r = 0; r < 7; r++) {
            BlockLayout x = Check.loaded("B8 00 01" + (r + 1) + "09" + "00".repeat(7));
            for (int last = 1; last < 8; last++) {
                Check.due("edge to " + (r + 1) + ", 1 to " + last, x.bestRotation(1, last), r < last ? r : 0);
            }
            Check.due("not from 2", x.bestRotation(2, 7), 0);
        }
    }

    private static void smallestOfEqualRotations() {
        Check.sentence("the smallest r for which the layout after the rotation by r has the smallest cost");
        for (int a = 1; a < 8; a++) {
            for (int b = 1; b < 8; b++) {
                if (a != b) {
                    BlockLayout x = Check.loaded("B8 00 02" + a + "50" + b + "50" + "00".repeat(7));
                    Check.due("edges to " + a + " and " + b, x.bestRotation(1, 7), Math.min(a, b) - 1);
                    x.setCount(0, 1, 51);
                    Check.due("one more to " + b, x.bestRotation(1, 7), b - 1);
                }
            }
        }
        Check.due("all equal", Check.loaded("B8 00" + "00".repeat(8)).bestRotation(1, 7), 0);
        Check.due("all equally dear", Check.loaded("B8 00" + "01099".repeat(8)).bestRotation(1, 7), 0);
    }

    private static void rotationsInsideTheHotSection() {
        Check.sentence("the cost of the layout after the rotation, with its border");
        // Block 2 leads to 3, but 3 is cold: it is no gain to bring 2 to the end of the hot section.
        BlockLayout x = Check.loaded("B4 00 00 01150 02250309 00");
        Check.due("split", x.split(10), 3);
        Check.due("swap", x.swap(1, 2), 100 + 150 + 18);
        Check.due("order", Check.order(x), "021|3");
        Check.due("bestRotation", x.bestRotation(1, 2), 0);
        Check.due("rotate", x.rotate(1, 2), 100 + 150 + 18);
        x.orderByChains();
        Check.due("all hot", Check.order(x), "0123");
        x.swap(1, 2);
        Check.due("bestRotation with 3 hot", x.bestRotation(1, 2), 1);
    }
}
