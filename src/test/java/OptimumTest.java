/** Promises 19, 20 and 22. */
public final class OptimumTest {
    public static void main(String[] args) {
        cheapestOrder();
        smallestOrderOfEqualCost();
        coldSectionStays();
        queriesChangeNothing();
        bestRotations();
        refusedRotations();
        Check.end();
    }

    private static void cheapestOrder() {
        BlockLayout x = Check.loaded("B4 00 01309 01207 00 01108");
        Check.due("cost before", x.cost(), 2 * 9 + 2 * 8);
        Check.due("optimalCost", x.optimalCost(), 0);
        Check.due("orderOptimally", x.orderOptimally(), 0);
        Check.due("order", Check.order(x), "0312");
        Check.due("cost after", x.cost(), 0);
        Check.due("it is an action", x.undo(), 0);
        Check.due("undone", Check.order(x), "0123");
        // Chain merging takes 1 2 first, so that 0 2 and 1 3 are lost; the optimum gives up 1 2.
        x = Check.loaded("B4 00 01209 02210309 01108 00");
        Check.due("chain order", x.orderByChains(), 2 * 9 + 3 * 9 + 2 * 8);
        Check.due("optimum", x.optimalCost(), 3 * 10);
        Check.due("orderOptimally", x.orderOptimally(), 3 * 10);
        Check.due("order", Check.order(x), "0213");
    }

    private static void smallestOrderOfEqualCost() {
        BlockLayout x = Check.loaded("B5 00 00 00 00 00 00");
        x.swap(1, 4);
        x.swap(2, 3);
        Check.due("turned round", Check.order(x), "04321");
        Check.due("orderOptimally", x.orderOptimally(), 0);
        Check.due("all orders are equal", Check.order(x), "01234");
        x = Check.loaded("B8 00 00 00 00 00 01705 00 00 00");
        Check.due("only 4 7 counts", x.orderOptimally(), 0);
        Check.due("order with 4 7", Check.order(x), "01234756");
        x = Check.loaded("B4 00 02205305 00 00 00");
        Check.due("2 or 3 behind 0", x.orderOptimally(), 15);
        Check.due("the smaller one", Check.order(x), "0213");
    }

    private static void coldSectionStays() {
        BlockLayout x = Check.loaded("B6 00 02309102 01505 00 01104 00 00");
        Check.due("split", x.split(1), 4);
        Check.due("order", Check.order(x), "0135|24");
        x.swap(4, 5);
        Check.due("optimalCost", x.optimalCost(), 6);
        Check.due("orderOptimally", x.orderOptimally(), 6);
        Check.due("cold order stays", Check.order(x), "0315|42");
        x.swap(2, 5);
        Check.due("swapped over the border", Check.order(x), "0325|41");
        Check.due("optimum of the new hot set", x.optimalCost(), 6 + 8 + 10);
        x.orderOptimally();
        Check.due("smallest of the new hot set", Check.order(x), "0325|41");
        x = Check.loaded("B4 00 00 01105 01206 01307");
        x.split(99);
        Check.due("all cold jumps", x.optimalCost(), 10 + 12 + 14);
        x = Check.loaded("B3 00 00 00 01104");
        x.split(99);
        Check.due("only block 0 is hot", Check.order(x), "0|12");
        Check.due("cost of the cold section", x.optimalCost(), 8);
        Check.due("nothing moves", x.orderOptimally(), 8);
        x.swap(1, 2);
        Check.due("cold fall through", x.optimalCost(), 0);
        x.orderOptimally();
        Check.due("cold order", Check.order(x), "0|21");
    }

    private static void queriesChangeNothing() {
        BlockLayout x = Check.loaded("B4 00 01309 01207 00 01108");
        String before = Check.portrait(x);
        x.optimalCost();
        x.bestRotation(1, 3);
        x.chainHead(2);
        Check.due("state", Check.portrait(x), before);
        Check.due("no action", x.undo(), BlockLayout.NOT_POSSIBLE);
    }

    private static void bestRotations() {
        BlockLayout x = Check.loaded("B4 00 01309 01207 00 01108");
        Check.due("by 2", x.bestRotation(1, 3), 2);
        Check.due("of two", x.bestRotation(1, 2), 0);
        Check.due("of one", x.bestRotation(2, 2), 0);
        x.rotate(1, 3);
        Check.due("order", Check.order(x), "0231");
        Check.due("by 1", x.bestRotation(1, 3), 1);
        x.rotate(1, 3);
        Check.due("the best one", Check.order(x), "0312");
        Check.due("by 0", x.bestRotation(1, 3), 0);
        x = Check.loaded("B5 00 00 00 00 00 00");
        Check.due("all equal", x.bestRotation(1, 4), 0);
        x = Check.loaded("B4 00 00 00 01305 00");
        Check.due("equally good by 0 and 1", x.bestRotation(1, 3), 0);
        x = Check.loaded("B4 00 00 00 00 01105");
        Check.due("equally good by 1 and 2", x.bestRotation(1, 3), 1);
        x = Check.loaded("B4 00 00 01305 01105 01205");
        Check.due("equally bad", x.bestRotation(1, 3), 0);
    }

    private static void refusedRotations() {
        BlockLayout x = Check.loaded("B4 00 01105 01205 00 00");
        x.split(1);
        Check.due("order", Check.order(x), "012|3");
        int[][] impossible = {{0, 0}, {0, 2}, {2, 1}, {1, 3}, {3, 3}, {0, 3}, {3, 1}};
        for (int[] range : impossible) {
            String call = "bestRotation " + range[0] + " " + range[1];
            Check.due(call, x.bestRotation(range[0], range[1]), BlockLayout.NOT_POSSIBLE);
        }
        int[][] missing = {{-1, 2}, {1, 4}, {4, 1}, {0, 4}, {4, 4}, {-1, -1}, {0, -1},
            {Integer.MIN_VALUE, 1}, {1, Integer.MAX_VALUE}, {Integer.MAX_VALUE, Integer.MIN_VALUE}};
        for (int[] range : missing) {
            String call = "bestRotation " + range[0] + " " + range[1];
            Check.due(call, x.bestRotation(range[0], range[1]), BlockLayout.NO_SUCH_INDEX);
        }
        Check.due("whole hot section", x.bestRotation(1, 2), 0);
    }
}
