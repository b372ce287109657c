/** Promises 23 to 29. */
public final class ActionsTest {
    private static final String FOUR = "B4 10 32106204 21306 11304 42005302";

    public static void main(String[] args) {
        swaps();
        refusedSwaps();
        rotations();
        refusedRotations();
        splits();
        refusedSplits();
        bypasses();
        joinedEdges();
        refusedBypasses();
        eightBlocks();
        counts();
        alignments();
        undoBringsEverythingBack();
        fourteenStates();
        errorsAreNoActions();
        Check.end();
    }

    private static void swaps() {
        BlockLayout x = Check.loaded(FOUR);
        // 0 2 1 3: 0 jumps over to 1 (18), 2 jumps to 3 (8), 1 falls through, 3 as before (19).
        Check.due("swap", x.swap(1, 2), 18 + 8 + 19);
        Check.due("order", Check.order(x), "0213");
        Check.due("swap back", x.swap(2, 1), 43);
        Check.due("order of numbers", Check.order(x), "0123");
        Check.due("swap with itself", x.swap(3, 3), 43);
        Check.due("every swap is an action", x.undo(), 2);
        x.split(5);
        Check.due("order", Check.order(x), "013|2");
        // 0 2 3 | 1: 0 has its follower 2 and branches to 1 (18), 2 falls through, 1 jumps (12).
        Check.due("swap over the border", x.swap(1, 3), 18 + 0 + 19 + 12);
        Check.due("the hot count stays", Check.order(x), "023|1");
    }

    private static void refusedSwaps() {
        BlockLayout x = Check.loaded(FOUR);
        int[][] impossible = {{0, 0}, {0, 3}, {3, 0}};
        for (int[] pair : impossible) {
            Check.due("swap " + pair[0] + " " + pair[1], x.swap(pair[0], pair[1]), BlockLayout.NOT_POSSIBLE);
        }
        int[][] missing = {{-1, 1}, {1, -1}, {4, 1}, {1, 4}, {0, 4}, {-1, 0}, {4, 4},
            {Integer.MIN_VALUE, 0}, {0, Integer.MAX_VALUE}};
        for (int[] pair : missing) {
            Check.due("swap " + pair[0] + " " + pair[1], x.swap(pair[0], pair[1]), BlockLayout.NO_SUCH_INDEX);
        }
        Check.due("order", Check.order(x), "0123");
    }

    private static void rotations() {
        BlockLayout x = Check.loaded("B6 00 01105 01205 01305 01405 01505 00");
        // Lost are 0 1, 1 2 and 4 5, then 0 1 and 1 2.
        Check.due("rotate", x.rotate(1, 4), 3 * 10);
        Check.due("the first one goes last", Check.order(x), "023415");
        Check.due("of two", x.rotate(4, 5), 2 * 10);
        Check.due("order", Check.order(x), "023451");
        Check.due("of one", x.rotate(2, 2), 2 * 10);
        Check.due("unchanged", Check.order(x), "023451");
        Check.due("still an action", x.undo(), 2);
        x.setCount(4, 0, 0);
        x.split(5);
        Check.due("split", Check.order(x), "02341|5");
        x.rotate(3, 4);
        Check.due("in the hot section", Check.order(x), "02314|5");
    }

    private static void refusedRotations() {
        BlockLayout x = Check.loaded("B4 00 01105 01205 00 00");
        x.split(1);
        int[][] impossible = {{0, 0}, {0, 2}, {2, 1}, {1, 3}, {3, 3}, {0, 3}, {3, 1}};
        for (int[] range : impossible) {
            Check.due("rotate " + range[0] + " " + range[1], x.rotate(range[0], range[1]), BlockLayout.NOT_POSSIBLE);
        }
        int[][] missing = {{-1, 2}, {1, 4}, {4, 1}, {0, 4}, {4, 4}, {-1, -1},
            {Integer.MIN_VALUE, 1}, {1, Integer.MAX_VALUE}};
        for (int[] range : missing) {
            Check.due("rotate " + range[0] + " " + range[1], x.rotate(range[0], range[1]), BlockLayout.NO_SUCH_INDEX);
        }
        Check.due("order", Check.order(x), "012|3");
    }

    private static void splits() {
        BlockLayout x = Check.loaded("B6 00 02110220 01330 01405 00 01530 00");
        Check.due("executions", x.executions(3), 30);
        Check.due("split at 10", x.split(10), 5);
        Check.due("4 is cold", Check.order(x), "01235|4");
        Check.due("split at 11", x.split(11), 4);
        Check.due("1 and 4 are cold", Check.order(x), "0235|14");
        x.swap(1, 5);
        Check.due("swapped", Check.order(x), "0435|12");
        Check.due("split again", x.split(20), 4);
        Check.due("cold ones come back behind the hot ones", Check.order(x), "0352|41");
        Check.due("split at 99", x.split(99), 1);
        Check.due("all but block 0", Check.order(x), "0|35241");
        Check.due("split at 1", x.split(1), 6);
        Check.due("all hot", Check.order(x), "035241");
        Check.due("five actions and a swap", x.undo(), 5);
        x.setCount(4, 0, 4);
        Check.due("by the present counts", x.split(5), 5);
        Check.due("5 is cold", Check.order(x), "03241|5");
    }

    private static void refusedSplits() {
        BlockLayout x = Check.loaded(FOUR);
        int[] bad = {Integer.MIN_VALUE, -1, 0, 100, Integer.MAX_VALUE};
        for (int threshold : bad) {
            Check.due("split " + threshold, x.split(threshold), BlockLayout.BAD_VALUE);
        }
        Check.due("order", Check.order(x), "0123");
        Check.due("no action", x.undo(), BlockLayout.NOT_POSSIBLE);
    }

    private static void bypasses() {
        BlockLayout x = Check.loaded("B5 03 12110211 21307 31308 01409 02305106");
        Check.due("two edges led to 3, and one from 4", x.bypass(3), 3);
        Check.due("from 1", x.successor(1, 0), 4);
        Check.due("from 2", x.successor(2, 0), 4);
        Check.due("from 4, now to itself", x.successor(4, 0), 4);
        Check.due("other slot of 4", x.successor(4, 1), 1);
        Check.due("count of 4 0", x.edgeCount(4, 0), 5);
        Check.due("successor of 3 stays", x.successor(3, 0), 4);
        Check.due("count of 3 0", x.edgeCount(3, 0), 0);
        Check.due("executions of 4", x.executions(4), 7 + 8 + 5);
        Check.due("executions of 3", x.executions(3), 0);
        Check.due("the layout stays", Check.order(x), "01234");
        Check.due("again, none leads to it", x.bypass(3), 0);
        Check.due("both are actions", x.undo(), 1);
        Check.due("undo", x.undo(), 0);
        Check.due("successor is back", x.successor(1, 0), 3);
        Check.due("count is back", x.edgeCount(3, 0), 9);
    }

    private static void joinedEdges() {
        int[][] sums = {{40, 58, 98}, {40, 59, 99}, {40, 60, 99}, {99, 99, 99}, {0, 0, 0}};
        for (int[] sum : sums) {
            joinedEdgesOf("1" + sum[0] + "2" + sum[1], sum);
            joinedEdgesOf("2" + sum[0] + "1" + sum[1], sum);
        }
        BlockLayout x = Check.loaded("B3 00 02110220 01205 00");
        x.swap(1, 2);
        String before = Check.portrait(x);
        x.bypass(1);
        x.undo();
        Check.due("undo splits the joined edge again", Check.portrait(x), before);
        x = Check.loaded("B4 00 02110220 01205 00 00");
        x.bypass(1);
        Check.due("cost counts one edge", x.cost(), 60);
        Check.due("executions count one edge", x.executions(2), 30);
        Check.due("one branch", x.branchBytes(0), 2);
        x.swap(1, 2);
        Check.due("none", x.branchBytes(0), 0);
        Check.due("setCount of the lost slot", x.setCount(0, 1, 5), BlockLayout.NO_SUCH_INDEX);
    }

    private static void joinedEdgesOf(String successors, int[] sum) {
        String twoDigits = successors.length() == 4 ? successors.replaceAll("(.)(.)(.)(.)", "$10$2$30$4") : successors;
        BlockLayout x = Check.loaded("B3 00 02" + twoDigits + " 01205 00");
        Check.due("one edge led to 1 of " + twoDigits, x.bypass(1), 1);
        Check.due("one successor left", x.successor(0, 1), BlockLayout.NO_SUCH_INDEX);
        Check.due("no count left", x.edgeCount(0, 1), BlockLayout.NO_SUCH_INDEX);
        Check.due("no cost left", x.edgeCost(0, 1), BlockLayout.NO_SUCH_INDEX);
        Check.due("successor", x.successor(0, 0), 2);
        Check.due("sum of the counts", x.edgeCount(0, 0), sum[2]);
    }

    private static void refusedBypasses() {
        BlockLayout x = Check.loaded("B6 00 01105 11205 00 02104205 01405 01105");
        int[] impossible = {0, 1, 2, 3, 4};
        for (int b : impossible) {
            Check.due("bypass " + b, x.bypass(b), BlockLayout.NOT_POSSIBLE);
        }
        int[] missing = {Integer.MIN_VALUE, -1, 6, 8, Integer.MAX_VALUE};
        for (int b : missing) {
            Check.due("bypass " + b, x.bypass(b), BlockLayout.NO_SUCH_INDEX);
        }
        Check.due("no action", x.undo(), BlockLayout.NOT_POSSIBLE);
        Check.due("bypass 5", x.bypass(5), 0);
        x = Check.loaded("B3 00 00 01205 01105");
        Check.due("two empty blocks in a ring", x.bypass(1), 1);
        Check.due("2 leads to itself", x.successor(2, 0), 2);
        Check.due("2 can't be bypassed now", x.bypass(2), BlockLayout.NOT_POSSIBLE);
        x = Check.loaded("B4 00 02105206 01305 02105305 00");
        Check.due("2 has two successors", x.bypass(2), BlockLayout.NOT_POSSIBLE);
        x.bypass(1);
        Check.due("2 has one now", x.successor(2, 1), BlockLayout.NO_SUCH_INDEX);
        Check.due("and is bypassed", x.bypass(2), 1);
        Check.due("0 keeps one successor", x.successor(0, 1), BlockLayout.NO_SUCH_INDEX);
        Check.due("which is 3", x.successor(0, 0), 3);
    }

    private static void eightBlocks() {
        BlockLayout x = Check.loaded("B8 10 01120 01230 01340 01450 01560 01670 01780 01090");
        Check.due("cost", x.cost(), 180);
        // 7 0 is always lost; 0 1 and 1 2 by the rotation, 1 2 and 2 3 by the swap.
        Check.due("rotate", x.rotate(1, 7), 40 + 60 + 180);
        Check.due("rotated", Check.order(x), "02345671");
        Check.due("swap", x.swap(1, 7), 60 + 80 + 180);
        Check.due("swapped", Check.order(x), "01345672");
        Check.due("split", x.split(40), 6);
        Check.due("order", Check.order(x), "034567|12");
        Check.due("bypass the last block", x.bypass(7), 1);
        Check.due("6 leads to 0", x.successor(6, 0), 0);
        Check.due("executions of 0", x.executions(0), 10 + 80);
        Check.due("four actions", x.undo(), 3);
        Check.due("bypass 6", x.bypass(6), 1);
        Check.due("5 leads to 7", x.successor(5, 0), 7);
    }

    private static void counts() {
        BlockLayout x = Check.loaded(FOUR);
        Check.due("setCount", x.setCount(0, 1, 99), 4);
        Check.due("setCount again", x.setCount(0, 1, 0), 99);
        Check.due("edgeCount", x.edgeCount(0, 1), 0);
        Check.due("the other slot stays", x.edgeCount(0, 0), 6);
        Check.due("the same count is an action", x.setCount(0, 1, 0), 0);
        Check.due("cost", x.cost(), 31);
        Check.due("undo", x.undo(), 2);
        int[] bad = {Integer.MIN_VALUE, -1, 100, Integer.MAX_VALUE};
        for (int c : bad) {
            Check.due("setCount to " + c, x.setCount(0, 0, c), BlockLayout.BAD_VALUE);
            Check.due("no slot and " + c, x.setCount(1, 1, c), BlockLayout.NO_SUCH_INDEX);
            Check.due("no block and " + c, x.setCount(4, 0, c), BlockLayout.NO_SUCH_INDEX);
        }
        int[] missing = {Integer.MIN_VALUE, -1, 4, Integer.MAX_VALUE};
        for (int far : missing) {
            Check.due("block " + far, x.setCount(far, 0, 5), BlockLayout.NO_SUCH_INDEX);
            Check.due("slot " + far, x.setCount(0, far, 5), BlockLayout.NO_SUCH_INDEX);
        }
        Check.due("slot 2", x.setCount(0, 2, 5), BlockLayout.NO_SUCH_INDEX);
        Check.due("errors change nothing", x.undo(), 1);
    }

    private static void alignments() {
        BlockLayout x = new BlockLayout();
        int previous = 1;
        int[] good = {1, 2, 4, 8, 16, 16, 1};
        for (int a : good) {
            Check.due("setAlignment " + a, x.setAlignment(a), previous);
            previous = a;
        }
        int[] bad = {Integer.MIN_VALUE, -16, -1, 0, 3, 5, 6, 7, 9, 12, 15, 17, 32, 64, 1 << 30, Integer.MAX_VALUE};
        for (int a : bad) {
            Check.due("setAlignment " + a, x.setAlignment(a), BlockLayout.BAD_VALUE);
        }
        Check.due("undo", x.undo(), 6);
        Check.due("undone alignment", x.setAlignment(2), 16);
    }

    private static void undoBringsEverythingBack() {
        BlockLayout x = Check.loaded("B4 10 32106204 01306 11304 42005302");
        x.setAlignment(8);
        String before = Check.portrait(x);
        x.setAlignment(16);
        x.bypass(1);
        x.setCount(0, 0, 50);
        x.rotate(1, 3);
        x.split(20);
        x.orderByChains();
        x.orderOptimally();
        x.swap(1, 2);
        for (int left = 8; left >= 1; left--) {
            Check.due("undo to " + left, x.undo(), left);
        }
        Check.due("state", Check.portrait(x), before);
        Check.due("last undo", x.undo(), 0);
        Check.due("no more", x.undo(), BlockLayout.NOT_POSSIBLE);
        Check.due("first alignment", x.setAlignment(4), 1);
        Check.due("an action after undo", x.undo(), 0);
    }

    private static void fourteenStates() {
        BlockLayout x = Check.loaded("B2 00 01100 00");
        for (int c = 1; c <= 20; c++) {
            Check.due("setCount", x.setCount(0, 0, c), c - 1);
        }
        for (int left = 13; left >= 0; left--) {
            Check.due("undo to " + left, x.undo(), left);
            Check.due("count with " + left, x.edgeCount(0, 0), 6 + left);
        }
        Check.due("none left", x.undo(), BlockLayout.NOT_POSSIBLE);
        Check.due("the oldest remembered state", x.edgeCount(0, 0), 6);
        for (int c = 1; c <= 15; c++) {
            x.setCount(0, 0, c);
        }
        Check.due("undo", x.undo(), 13);
        Check.due("fourteen again", x.edgeCount(0, 0), 14);
        x.setCount(0, 0, 77);
        x.setCount(0, 0, 78);
        Check.due("full again", x.undo(), 13);
        Check.due("count", x.edgeCount(0, 0), 77);
    }

    private static void errorsAreNoActions() {
        BlockLayout x = Check.loaded(FOUR);
        x.setAlignment(8);
        String before = Check.portrait(x);
        x.swap(0, 1);
        x.swap(1, 9);
        x.rotate(2, 1);
        x.split(0);
        x.bypass(1);
        x.bypass(-1);
        x.setCount(0, 0, 100);
        x.setCount(0, 2, 1);
        x.setAlignment(3);
        x.runScript(1, 1120);
        x.execute(1, 5);
        x.save(0);
        x.restore(1);
        Check.due("state", Check.portrait(x), before);
        Check.due("only one action", x.undo(), 0);
    }
}
