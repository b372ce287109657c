/** The edges of promises 1 and 6 to 10 and of the section CONTROL-FLOW GRAPH. */
public final class FunctionBoundsTest {
    public static void main(String[] args) {
        newObject();
        newObjectTakesActions();
        callsUpTo512();
        sizes();
        counts();
        entryCounts();
        executionsOfNoEdge();
        greatestExecutions();
        entryCountOfBlock0Alone();
        ownSuccessor();
        entryCountIsNoState();
        Check.end();
    }

    private static void newObject() {
        Check.sentence("a new object has one block of size 0 without successors and the entry count 0");
        BlockLayout x = new BlockLayout();
        Check.due("blockCount", x.blockCount(), 1);
        int[] indices = {-1, 0, 1};
        for (int b : indices) {
            int zero = b == 0 ? 0 : BlockLayout.NO_SUCH_INDEX;
            Check.due("size " + b, x.size(b), zero);
            Check.due("executions " + b, x.executions(b), zero);
            Check.due("blockAt " + b, x.blockAt(b), zero);
            Check.due("address " + b, x.address(b), zero);
            Check.due("branchBytes " + b, x.branchBytes(b), zero);
            Check.due("chainHead " + b, x.chainHead(b), zero);
            for (int k = -1; k <= 2; k++) {
                Check.due("successor " + b + " " + k, x.successor(b, k), BlockLayout.NO_SUCH_INDEX);
                Check.due("edgeCount " + b + " " + k, x.edgeCount(b, k), BlockLayout.NO_SUCH_INDEX);
                Check.due("edgeCost " + b + " " + k, x.edgeCost(b, k), BlockLayout.NO_SUCH_INDEX);
            }
        }
        Check.due("hotCount", x.hotCount(), 1);
        Check.due("cost", x.cost(), 0);
        Check.due("codeSize", x.codeSize(), 0);
        Check.due("optimalCost", x.optimalCost(), 0);
        Check.due("errorPosition of the empty text", x.errorPosition(), 0);
        Check.due("bestRotation 0 0", x.bestRotation(0, 0), BlockLayout.NOT_POSSIBLE);
        Check.due("undo", x.undo(), BlockLayout.NOT_POSSIBLE);
        Check.due("restore 0", x.restore(0), BlockLayout.NOT_POSSIBLE);
        Check.due("restore 1", x.restore(1), BlockLayout.NOT_POSSIBLE);
        Check.due("clearText", x.clearText(), 0);
    }

    private static void newObjectTakesActions() {
        Check.sentence("creates a function with one empty block");
        BlockLayout x = new BlockLayout();
        Check.due("orderByChains", x.orderByChains(), 0);
        Check.due("orderOptimally", x.orderOptimally(), 0);
        Check.due("split", x.split(99), 1);
        Check.due("setAlignment", x.setAlignment(16), 1);
        Check.due("four actions", x.undo(), 3);
        Check.due("execute", x.execute(5, 99), 0);
        Check.due("script", x.runScript(4, 3099_4000_5000_6000L), BlockLayout.NONE);
        Check.due("save", x.save(1), 1);
        Check.due("restore", x.restore(1), 1);
        Check.due("order", Check.order(x), "0");
    }

    private static void callsUpTo512() {
        Check.sentence("an object is used for at most 512 calls after it has been made");
        BlockLayout x = new BlockLayout();
        int previous = 1;
        for (int call = 1; call <= 498; call++) {
            int a = 1 << call % 5;
            Check.due("call " + call, x.setAlignment(a), previous);
            previous = a;
        }
        for (int left = 13; left >= 0; left--) {
            Check.due("call " + (512 - left), x.undo(), left);
        }
        BlockLayout text = new BlockLayout();
        for (int round = 1; round <= 5; round++) {
            for (int length = 1; length <= 99; length++) {
                Check.due("append of round " + round, text.append(66), length);
            }
            Check.due("clearText of round " + round, text.clearText(), 99);
        }
        for (int call = 501; call <= 511; call++) {
            Check.due("call " + call, text.append(66), call - 500);
        }
        Check.due("call 512", text.errorPosition(), 1);
    }

    private static void sizes() {
        Check.sentence("each block has a size of 0 to 9 bytes");
        for (int bytes = 0; bytes <= 9; bytes++) {
            BlockLayout x = Check.loaded("B2 00 00 " + bytes + "0");
            Check.due("size 0", x.size(0), 0);
            Check.due("size 1", x.size(1), bytes);
            Check.due("codeSize", x.codeSize(), bytes);
        }
    }

    private static void counts() {
        Check.sentence("each edge has a count from 0 to 99");
        for (int c = 0; c <= 99; c++) {
            String digits = String.format("%02d", c);
            BlockLayout x = Check.loaded("B2 00 020" + digits + "1" + digits + " 01000");
            Check.due("count of slot 0", x.edgeCount(0, 0), c);
            Check.due("count of slot 1", x.edgeCount(0, 1), c);
            Check.due("count of the other block", x.edgeCount(1, 0), 0);
            Check.due("executions", x.executions(1), c);
        }
    }

    private static void entryCounts() {
        Check.sentence("the function also has an entry count from 0 to 99");
        for (int c = 0; c <= 99; c++) {
            BlockLayout x = Check.loaded("B2" + String.format("%02d", c) + "00 00");
            Check.due("executions of 0", x.executions(0), c);
            Check.due("executions of 1", x.executions(1), 0);
        }
    }

    private static void executionsOfNoEdge() {
        Check.sentence("the sum of the counts of all edges that lead to it");
        BlockLayout x = Check.loaded("B4 00 01205 01200 01207 01399");
        Check.due("no edge leads to 0", x.executions(0), 0);
        Check.due("no edge leads to 1", x.executions(1), 0);
        Check.due("three edges lead to 2", x.executions(2), 12);
        Check.due("its own edge leads to 3", x.executions(3), 99);
    }

    private static void greatestExecutions() {
        Check.sentence("the sum of the counts of all edges that lead to it; for block 0 the entry count is added");
        BlockLayout x = Check.loaded("B8 99" + "02099799".repeat(7) + "02799099");
        Check.due("most of block 0", x.executions(0), 9 * 99);
        Check.due("most of block 7", x.executions(7), 8 * 99);
        Check.due("none of block 6", x.executions(6), 0);
    }

    private static void entryCountOfBlock0Alone() {
        Check.sentence("for block 0 the entry count is added");
        BlockLayout x = Check.loaded("B3 42 01105 01206 01007");
        Check.due("executions of 0", x.executions(0), 42 + 7);
        Check.due("executions of 1", x.executions(1), 5);
        Check.due("executions of 2", x.executions(2), 6);
    }

    private static void ownSuccessor() {
        Check.sentence("a block may be its own successor");
        BlockLayout x = Check.loaded("B2 00 02009104 02003119");
        Check.due("slot 0 of 0", x.successor(0, 0), 0);
        Check.due("slot 1 of 1", x.successor(1, 1), 1);
        Check.due("executions of 0", x.executions(0), 9 + 3);
        Check.due("executions of 1", x.executions(1), 4 + 19);
        Check.due("alone", Check.loaded("B1 00 01077").executions(0), 77);
    }

    private static void entryCountIsNoState() {
        Check.sentence("the sizes and the entry count are not part of the state");
        BlockLayout x = Check.loaded("B2 31 51105 60");
        x.save(0);
        x.setCount(0, 0, 9);
        x.undo();
        Check.due("entry count after undo", x.executions(0), 31);
        Check.due("size after undo", x.size(1), 6);
        x.restore(0);
        Check.due("entry count after restore", x.executions(0), 31);
        Check.due("size after restore", x.size(0), 5);
    }
}
