import java.util.function.Consumer;

/** The edges of promises 23 to 27. */
public final class ActionBoundsTest {
    /** Each block falls through to the next; the executions of 1 to 4 are 40, 30, 20 and 10. */
    private static final String LINE = "B5 00 11140 11230 11320 11410 10";

    public static void main(String[] args) {
        for (int h = 1; h <= 5; h++) {
            swaps(h);
            rotations(h);
        }
        swapsInOneBlock();
        swapOverTheBorder();
        rotationOfAllButTheFirst();
        thresholds();
        executionsAtTheThreshold();
        executionsAboveTheThreshold();
        block0StaysHot();
        whateverTheyWereBefore();
        sectionsKeepTheirOrder();
        presentCounts();
        refusedBypasses();
        edgesToABypassedBlock();
        sumsOfJoinedEdges();
        edgesThatStayApart();
        countOfTheBypassedEdge();
        bypassOfARing();
        bypassKeepsTheLayout();
        counts();
        Check.end();
    }

    private static Consumer<BlockLayout> split(int h) {
        return x -> {
            Check.reload(x, LINE);
            x.split(60 - 10 * h);
        };
    }

    private static String swapped(int i, int j) {
        StringBuilder order = new StringBuilder("01234");
        order.setCharAt(i, (char) ('0' + j));
        order.setCharAt(j, (char) ('0' + i));
        return order.toString();
    }

    private static void swaps(int h) {
        Check.sentence("swap: NO_SUCH_INDEX; NOT_POSSIBLE if i or j is 0; j may be equal to i");
        for (int i = -1; i <= 5; i++) {
            for (int j = -1; j <= 5; j++) {
                swap(h, i, j);
            }
        }
    }

    private static void swap(int h, int i, int j) {
        String what = "swap " + i + " " + j;
        if (i < 0 || i > 4 || j < 0 || j > 4) {
            Twins.unchanged(what, split(h), x -> x.swap(i, j), BlockLayout.NO_SUCH_INDEX);
        } else if (i == 0 || j == 0) {
            Twins.unchanged(what, split(h), x -> x.swap(i, j), BlockLayout.NOT_POSSIBLE);
        } else {
            BlockLayout x = new BlockLayout();
            split(h).accept(x);
            int answer = x.swap(i, j);
            Check.due("cost of " + what, answer, x.cost());
            Check.due("order of " + what, Check.order(x).replace("|", ""), swapped(i, j));
            Check.due("the hot count stays the same", x.hotCount(), h);
            Check.due("it is an action", x.undo(), 1);
        }
    }

    private static void swapsInOneBlock() {
        Check.sentence("swap: NO_SUCH_INDEX; NOT_POSSIBLE if i or j is 0");
        Twins.unchanged("swap 0 0", Twins.NEW, x -> x.swap(0, 0), BlockLayout.NOT_POSSIBLE);
        Twins.unchanged("swap 0 1", Twins.NEW, x -> x.swap(0, 1), BlockLayout.NO_SUCH_INDEX);
        Twins.unchanged("swap 1 0", Twins.NEW, x -> x.swap(1, 0), BlockLayout.NO_SUCH_INDEX);
        Twins.unchanged("swap 1 1", Twins.NEW, x -> x.swap(1, 1), BlockLayout.NO_SUCH_INDEX);
        Twins.unchanged("swap -1 0", Twins.NEW, x -> x.swap(-1, 0), BlockLayout.NO_SUCH_INDEX);
    }

    private static void swapOverTheBorder() {
        Check.sentence("swap: swaps two blocks of the layout; the hot count stays the same");
        BlockLayout x = new BlockLayout();
        split(3).accept(x);
        // 0 1 3|2 4: 1 leads to 2 and 2 to 3 by jumps, 3 to 4 over the border.
        Check.due("last hot with first cold", x.swap(2, 3), 2 * (30 + 20 + 10));
        Check.due("order", Check.order(x), "013|24");
        Check.due("first hot with last cold", x.swap(1, 4), 2 * (40 + 30 + 20 + 10));
        Check.due("order", Check.order(x), "043|21");
    }

    private static void rotations(int h) {
        Check.sentence("NOT_POSSIBLE if first is 0, if first is greater than last, or if last is in the cold section");
        for (int first = -1; first <= 5; first++) {
            for (int last = -1; last <= 5; last++) {
                rotation(h, first, last);
            }
        }
    }

    private static void rotation(int h, int first, int last) {
        String what = "rotate " + first + " " + last + " with " + h;
        if (first < 0 || first > 4 || last < 0 || last > 4) {
            Twins.unchanged(what, split(h), x -> x.rotate(first, last), BlockLayout.NO_SUCH_INDEX);
        } else if (first == 0 || first > last || last >= h) {
            Twins.unchanged(what, split(h), x -> x.rotate(first, last), BlockLayout.NOT_POSSIBLE);
        } else {
            BlockLayout x = new BlockLayout();
            split(h).accept(x);
            int answer = x.rotate(first, last);
            String line = "01234";
            String turned = line.substring(0, first) + line.substring(first + 1, last + 1) + line.charAt(first)
                + line.substring(last + 1);
            Check.due("cost of " + what, answer, x.cost());
            Check.due("order of " + what, Check.order(x).replace("|", ""), turned);
            Check.due("hotCount", x.hotCount(), h);
            Check.due("it is an action", x.undo(), 1);
        }
    }

    private static void rotationOfAllButTheFirst() {
        Check.sentence("a rotation by 1 moves the block at position first to position last");
        BlockLayout x = Check.loaded("B8 00" + "00".repeat(8));
        String[] orders = {"02345671", "03456712", "04567123", "05671234", "06712345", "07123456", "01234567"};
        for (String order : orders) {
            x.rotate(1, 7);
            Check.due("order", Check.order(x), order);
        }
    }

    private static void thresholds() {
        Check.sentence("split: threshold is 1 to 99; BAD_VALUE if threshold is out of range");
        int[] bad = {Integer.MIN_VALUE, -99, -1, 0, 100, 101, 257, Integer.MAX_VALUE};
        for (int threshold : bad) {
            Twins.unchanged("split " + threshold, Twins.RICH, x -> x.split(threshold), BlockLayout.BAD_VALUE);
            Twins.unchanged("split " + threshold, Twins.NEW, x -> x.split(threshold), BlockLayout.BAD_VALUE);
        }
        for (int threshold = 1; threshold <= 99; threshold++) {
            BlockLayout x = Check.loaded(LINE);
            int cold = 0;
            for (int executions = 10; executions <= 40; executions += 10) {
                cold += executions < threshold ? 1 : 0;
            }
            Check.due("split " + threshold, x.split(threshold), 5 - cold);
            Check.due("hotCount", x.hotCount(), 5 - cold);
            Check.due("it is an action", x.undo(), 0);
            Check.due("all hot again", x.hotCount(), 5);
        }
    }

    private static void executionsAtTheThreshold() {
        Check.sentence("split: becomes cold if its execution count is less than the threshold");
        int[] thresholds = {1, 2, 49, 50, 98, 99};
        for (int t : thresholds) {
            BlockLayout x = Check.loaded("B4 00 02100200 01300 01300 00");
            x.setCount(0, 0, t - 1);
            x.setCount(0, 1, t);
            x.setCount(1, 0, 1);
            x.setCount(2, 0, t);
            Check.due("executions", x.executions(1) + " " + x.executions(2) + " " + x.executions(3),
                (t - 1) + " " + t + " " + (t + 1));
            Check.due("split " + t, x.split(t), 3);
            Check.due("order", Check.order(x), "023|1");
        }
    }

    private static void executionsAboveTheThreshold() {
        Check.sentence("split: an execution count above 99 is never less than the threshold");
        BlockLayout x = Check.loaded("B3 00 01299 01201 00");
        Check.due("executions", x.executions(2), 100);
        Check.due("split 99", x.split(99), 2);
        Check.due("order", Check.order(x), "02|1");
        x = Check.loaded("B8 99" + "02099799".repeat(7) + "02799099");
        Check.due("split 99", x.split(99), 2);
        Check.due("order", Check.order(x), "07|123456");
    }

    private static void block0StaysHot() {
        Check.sentence("split: a block other than block 0 becomes cold");
        Check.due("new object", new BlockLayout().split(99), 1);
        BlockLayout x = Check.loaded("B3 00 00 01250 00");
        Check.due("executions of 0", x.executions(0), 0);
        Check.due("split", x.split(50), 2);
        Check.due("order", Check.order(x), "02|1");
        Check.due("split at 51", x.split(51), 1);
        Check.due("order", Check.order(x), "0|21");
    }

    private static void whateverTheyWereBefore() {
        Check.sentence("split: all other blocks become hot, whatever they were before");
        BlockLayout x = Check.loaded(LINE);
        Check.due("split at 99", x.split(99), 1);
        Check.due("split at 1", x.split(1), 5);
        Check.due("order", Check.order(x), "01234");
        x.split(30);
        x.swap(1, 4);
        Check.due("swapped over the border", Check.order(x), "042|31");
        Check.due("split again", x.split(30), 3);
        Check.due("back in their sections", Check.order(x), "021|43");
    }

    private static void sectionsKeepTheirOrder() {
        Check.sentence("split: hot blocks come first; blocks of the same section keep their order");
        // Executions: 1, 3, 5 and 7 have 50, the others 0.
        BlockLayout x = Check.loaded("B8 00 01150 00 01350 00 01550 00 01750 00");
        Check.due("split", x.split(50), 5);
        Check.due("order", Check.order(x), "01357|246");
        x = Check.loaded("B8 00 01150 00 01350 00 01550 00 01750 00");
        for (int i = 1; i < 4; i++) {
            x.swap(i, 8 - i);
        }
        Check.due("turned round", Check.order(x), "07654321");
        Check.due("split", x.split(50), 5);
        Check.due("order", Check.order(x), "07531|642");
        Check.due("split the same", x.split(1), 5);
        Check.due("the same order", Check.order(x), "07531|642");
    }

    private static void presentCounts() {
        Check.sentence("split: its execution count (by the present counts)");
        BlockLayout x = Check.loaded("B2 00 01150 00");
        Check.due("split", x.split(50), 2);
        x.setCount(0, 0, 49);
        Check.due("the hot count stays until the next split", x.hotCount(), 2);
        Check.due("split", x.split(50), 1);
        x.setCount(0, 0, 50);
        Check.due("split", x.split(50), 2);
    }

    private static void refusedBypass(String setup, int b) {
        String what = "bypass " + b + " of " + setup;
        Twins.unchanged(what, Twins.of(setup), x -> x.bypass(b), BlockLayout.NOT_POSSIBLE);
    }

    private static void refusedBypasses() {
        Check.sentence("bypass: NOT_POSSIBLE if b is 0");
        refusedBypass("B2 00 01105 00", 0);
        refusedBypass("B1 00 00", 0);
        refusedBypass("B1 00 01005", 0);
        Check.due("block 1 like it", Check.loaded("B2 00 01105 01005").bypass(1), 1);
        Check.sentence("bypass: NOT_POSSIBLE if its size is not 0");
        for (int bytes = 1; bytes <= 9; bytes++) {
            refusedBypass("B3 00 01105 " + bytes + "1205 00", 1);
        }
        Check.due("size 0", Check.loaded("B3 00 01105 01205 00").bypass(1), 1);
        Check.sentence("bypass: NOT_POSSIBLE if it does not have exactly one successor");
        refusedBypass("B3 00 01105 00 00", 1);
        refusedBypass("B3 00 01105 02005205 00", 1);
        refusedBypass("B3 00 01105 02105205 00", 1);
        Check.due("one successor", Check.loaded("B3 00 01105 01005 00").bypass(1), 1);
        Check.sentence("bypass: NOT_POSSIBLE if it is its own successor");
        refusedBypass("B3 00 01105 01105 00", 1);
        refusedBypass("B3 00 01105 00 01205", 2);
        Check.due("the next one", Check.loaded("B3 00 01105 00 01105").bypass(2), 0);
    }

    private static void edgesToABypassedBlock() {
        Check.sentence("bypass: returns how many edges led to b");
        for (int edges = 0; edges <= 7; edges++) {
            StringBuilder text = new StringBuilder("B8 00");
            for (int b = 0; b < 7; b++) {
                text.append(b < edges ? "01709" : "01009");
            }
            BlockLayout x = Check.loaded(text + "01033");
            Check.due("bypass with " + edges + " edges", x.bypass(7), edges);
            Check.due("executions of 7", x.executions(7), 0);
            Check.due("executions of 0", x.executions(0), 7 * 9);
            for (int b = 0; b < 8; b++) {
                Check.due("successor of " + b, x.successor(b, 0), 0);
            }
            Check.due("an action, whatever it moves", x.undo(), 0);
            Check.due("edges are back", x.executions(7), 9 * edges);
        }
        Check.due("edges of count 0 lead to it too", Check.loaded("B3 00 01100 01205 01100").bypass(1), 2);
    }

    private static void joined(int first, int second, int sum) {
        String one = String.format("%02d", first);
        String two = String.format("%02d", second);
        String[] successors = {"1" + one + "2" + two, "2" + one + "1" + two};
        for (String pair : successors) {
            BlockLayout x = Check.loaded("B3 00 02" + pair + " 01277 00");
            Check.due("bypass with " + pair, x.bypass(1), 1);
            Check.due("successor", x.successor(0, 0), 2);
            Check.due("count", x.edgeCount(0, 0), sum);
            Check.due("no slot 1", x.successor(0, 1), BlockLayout.NO_SUCH_INDEX);
            Check.due("executions", x.executions(2), sum);
            Check.due("count of (1, 0)", x.edgeCount(1, 0), 0);
        }
    }

    private static void sumsOfJoinedEdges() {
        Check.sentence("bypass: keeps only slot 0, whose count is the sum of both counts, but at most 99");
        joined(0, 0, 0);
        joined(0, 1, 1);
        joined(1, 0, 1);
        joined(49, 49, 98);
        joined(0, 99, 99);
        joined(99, 0, 99);
        joined(49, 50, 99);
        joined(50, 50, 99);
        joined(1, 99, 99);
        joined(99, 1, 99);
        joined(99, 99, 99);
    }

    private static void edgesThatStayApart() {
        Check.sentence("bypass: if both successors of a block are then the same");
        BlockLayout x = Check.loaded("B4 00 02160350 01205 00 00");
        Check.due("bypass", x.bypass(1), 1);
        Check.due("slot 0", x.successor(0, 0), 2);
        Check.due("count 0", x.edgeCount(0, 0), 60);
        Check.due("slot 1", x.successor(0, 1), 3);
        Check.due("count 1", x.edgeCount(0, 1), 50);
        Check.sentence("bypass: an edge of its own to the successor of b joins with one that led to b");
        x = Check.loaded("B4 00 00 01205 02140230 02020130");
        Check.due("two edges", x.bypass(1), 2);
        Check.due("2 leads to itself alone", x.successor(2, 0) + " " + x.edgeCount(2, 0), "2 70");
        Check.due("without slot 1", x.successor(2, 1), BlockLayout.NO_SUCH_INDEX);
        Check.due("3 leads to 0", x.successor(3, 0) + " " + x.edgeCount(3, 0), "0 20");
        Check.due("3 leads to 2", x.successor(3, 1) + " " + x.edgeCount(3, 1), "2 30");
    }

    private static void countOfTheBypassedEdge() {
        Check.sentence("bypass: after that the count of the edge (b, 0) becomes 0; its successor stays");
        int[] counts = {0, 1, 99};
        for (int c : counts) {
            BlockLayout x = Check.loaded("B3 00 01105 01205 00");
            x.setCount(1, 0, c);
            Check.due("bypass", x.bypass(1), 1);
            Check.due("count", x.edgeCount(1, 0), 0);
            Check.due("successor", x.successor(1, 0), 2);
            Check.due("no slot 1", x.successor(1, 1), BlockLayout.NO_SUCH_INDEX);
            Check.due("executions of 2", x.executions(2), 5);
            Check.due("bypass again", x.bypass(1), 0);
            Check.due("both are actions", x.undo(), 2);
        }
    }

    private static void bypassOfARing() {
        Check.sentence("bypass: each edge that leads to block b leads to the successor of b instead");
        BlockLayout x = Check.loaded("B3 00 01107 01205 01109");
        Check.due("bypass 1", x.bypass(1), 2);
        Check.due("0 leads to 2", x.successor(0, 0), 2);
        Check.due("1 leads to 2", x.successor(1, 0), 2);
        Check.due("2 leads to itself", x.successor(2, 0), 2);
        Check.due("count of 2", x.edgeCount(2, 0), 9);
        Check.due("bypass 2", x.bypass(2), BlockLayout.NOT_POSSIBLE);
        Check.due("one action", x.undo(), 0);
        Check.due("2 leads to 1", x.successor(2, 0), 1);
    }

    private static void bypassKeepsTheLayout() {
        Check.sentence("bypass: the layout stays the same");
        BlockLayout x = Check.loaded("B4 00 01150 01205 00 00");
        x.split(5);
        x.swap(1, 2);
        Check.due("order", Check.order(x), "021|3");
        x.bypass(1);
        Check.due("order after bypass", Check.order(x), "021|3");
        Check.due("executions of 1", x.executions(1), 0);
    }

    private static void counts() {
        Check.sentence("setCount: c is 0 to 99; BAD_VALUE if c is out of range");
        BlockLayout x = Check.loaded("B2 00 02007108 00");
        int previous = 7;
        for (int c = 0; c <= 99; c++) {
            Check.due("setCount " + c, x.setCount(0, 0, c), previous);
            Check.due("edgeCount", x.edgeCount(0, 0), c);
            Check.due("the other slot", x.edgeCount(0, 1), 8);
            previous = c;
        }
        int[] bad = {Integer.MIN_VALUE, -256, -100, -99, -1, 100, 101, 256, 355, Integer.MAX_VALUE};
        for (int c : bad) {
            Twins.unchanged("setCount " + c, Twins.RICH, y -> y.setCount(0, 0, c), BlockLayout.BAD_VALUE);
            Twins.unchanged("setCount " + c, Twins.RICH, y -> y.setCount(3, 1, c), BlockLayout.BAD_VALUE);
        }
    }
}
