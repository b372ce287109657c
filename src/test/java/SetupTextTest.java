/** Promises 2 to 5. */
public final class SetupTextTest {
    private static final String WHOLE = "B210" + "32107015" + "00";

    public static void main(String[] args) {
        appendCounts();
        clearTextEmpties();
        everyPrefixIsTooShort();
        everySignIsLookedAt();
        limitsOfDigits();
        behindTheSetup();
        loadReplaces();
        loadRefuses();
        clearedSignsDoNotCount();
        lastFunctionLeavesNothing();
        Check.end();
    }

    private static void appendCounts() {
        BlockLayout x = new BlockLayout();
        Check.due("append(-1)", x.append(-1), BlockLayout.BAD_VALUE);
        Check.due("append(256)", x.append(256), BlockLayout.BAD_VALUE);
        Check.due("append least int", x.append(Integer.MIN_VALUE), BlockLayout.BAD_VALUE);
        Check.due("append greatest int", x.append(Integer.MAX_VALUE), BlockLayout.BAD_VALUE);
        Check.due("append(0)", x.append(0), 1);
        Check.due("append(255)", x.append(255), 2);
        for (int length = 3; length <= 99; length++) {
            Check.due("append up to " + length, x.append(48), length);
        }
        Check.due("append to a full text", x.append(48), BlockLayout.FULL);
        Check.due("bad value in a full text", x.append(256), BlockLayout.BAD_VALUE);
        Check.due("full text has 99", x.clearText(), 99);
    }

    private static void clearTextEmpties() {
        BlockLayout x = Check.loaded(WHOLE);
        String before = Check.portrait(x);
        Check.due("clearText", x.clearText(), WHOLE.length());
        Check.due("clearText again", x.clearText(), 0);
        Check.due("error position of no text", x.errorPosition(), 0);
        Check.due("append after clearText", x.append(66), 1);
        Check.due("function after clearText", Check.portrait(x), before);
    }

    private static int errorOf(String text) {
        BlockLayout x = new BlockLayout();
        Check.type(x, text);
        int position = x.errorPosition();
        Check.due("errorPosition leaves the text " + text, x.clearText(), text.length());
        return position;
    }

    private static void everyPrefixIsTooShort() {
        String[] setups = {WHOLE, "B10001000", "B30000" + "01199" + "12205005", "B899" + "92099199".repeat(8)};
        for (String setup : setups) {
            for (int length = 0; length < setup.length(); length++) {
                String prefix = setup.substring(0, length);
                Check.due("prefix " + prefix, errorOf(prefix), length);
            }
            Check.due("whole setup " + setup, errorOf(setup), BlockLayout.NONE);
        }
    }

    private static void everySignIsLookedAt() {
        int[] wrongSigns = {0, '/', ':', 'b', 'A', ' ', 255, 'B' + 128, '1' + 128};
        for (int at = 0; at < WHOLE.length(); at++) {
            for (int sign : wrongSigns) {
                String spoilt = WHOLE.substring(0, at) + (char) sign + WHOLE.substring(at + 1);
                Check.due("sign " + sign + " at " + at, errorOf(spoilt), at);
            }
        }
    }

    private static void limitsOfDigits() {
        Check.due("no blocks", errorOf("B0"), 1);
        Check.due("9 blocks", errorOf("B9"), 1);
        Check.due("8 blocks", errorOf("B8"), 2);
        Check.due("three successors", errorOf("B30003"), 5);
        Check.due("two successors of one block", errorOf("B10002"), 5);
        Check.due("two successors of two blocks", errorOf("B20002"), 6);
        Check.due("successor out of range", errorOf("B200012"), 6);
        Check.due("greatest successor", errorOf("B200011"), 7);
        Check.due("another successor of the only block", errorOf("B100911"), 6);
        Check.due("only block as its own successor", errorOf("B1009109"), 8);
        Check.due("self loop, complete", errorOf("B10091099"), BlockLayout.NONE);
        Check.due("second successor equal", errorOf("B300022052"), 9);
        Check.due("second successor smaller", errorOf("B3000220510"), 11);
        Check.due("greatest setup", errorOf("B899" + "92099199".repeat(8)), BlockLayout.NONE);
        Check.due("error before the end", errorOf("X210"), 0);
        Check.due("only the first error counts", errorOf("B2x0y"), 2);
    }

    private static void behindTheSetup() {
        Check.due("sign behind", errorOf(WHOLE + "0"), WHOLE.length());
        Check.due("two signs behind", errorOf(WHOLE + "B2"), WHOLE.length());
        Check.due("sign 0 behind", errorOf(WHOLE + (char) 0), WHOLE.length());
        Check.due("full text behind", errorOf((WHOLE + "0".repeat(99)).substring(0, 99)), WHOLE.length());
    }

    private static void clearedSignsDoNotCount() {
        BlockLayout x = new BlockLayout();
        for (int length = 0; length < WHOLE.length(); length++) {
            Check.type(x, WHOLE);
            x.clearText();
            Check.type(x, WHOLE.substring(0, length));
            Check.due("cleared signs behind " + length, x.errorPosition(), length);
            Check.due("load of " + length, x.load(), BlockLayout.NOT_POSSIBLE);
            x.clearText();
        }
    }

    /** The same calls on a new object and on one that had a function with more edges before. */
    private static void lastFunctionLeavesNothing() {
        BlockLayout x = Check.loaded("B8 77" + "52390190".repeat(3) + "52590190".repeat(5));
        x.split(99);
        x.orderByChains();
        Check.reload(x, "B6 00 01405 01205 01305 00 01505 01205");
        BlockLayout fresh = Check.loaded("B6 00 01405 01205 01305 00 01505 01205");
        Check.due("portrait", Check.portrait(x), Check.portrait(fresh));
        Check.due("executions of 1", x.executions(1), 0);
        Check.due("chain order", x.orderByChains(), 10);
        Check.due("order", Check.order(x), "045123");
        for (int seed = 0; seed < 20; seed++) {
            Check.due("walk " + seed, x.execute(seed, 5), fresh.execute(seed, 5) - 2);
        }
        Check.due("edges to 1", x.bypass(1), 0);
        Check.due("edges to 2", x.bypass(2), 2);
    }

    private static void loadReplaces() {
        BlockLayout x = Check.loaded("B4 10 32106204 21306 11304 42005302");
        x.setAlignment(16);
        x.swap(1, 2);
        x.split(99);
        x.save(0);
        x.save(1);
        x.clearText();
        Check.type(x, WHOLE);
        Check.due("load", x.load(), 2);
        Check.due("blockCount", x.blockCount(), 2);
        Check.due("layout after load", Check.order(x), "01");
        Check.due("block 0", x.size(0), 3);
        Check.due("block 1", x.size(1), 0);
        Check.due("successor 0 0", x.successor(0, 0), 1);
        Check.due("count 0 0", x.edgeCount(0, 0), 7);
        Check.due("successor 0 1", x.successor(0, 1), 0);
        Check.due("count 0 1", x.edgeCount(0, 1), 15);
        Check.due("executions", x.executions(0), 25);
        Check.due("no block 2", x.size(2), BlockLayout.NO_SUCH_INDEX);
        Check.due("load forgets states", x.undo(), BlockLayout.NOT_POSSIBLE);
        Check.due("load empties slot 0", x.restore(0), BlockLayout.NOT_POSSIBLE);
        Check.due("load empties slot 1", x.restore(1), BlockLayout.NOT_POSSIBLE);
        Check.due("alignment after load", x.setAlignment(4), 1);
        Check.due("load keeps the text", x.errorPosition(), BlockLayout.NONE);
        Check.due("load again", x.load(), 2);
        Check.due("alignment after load again", x.setAlignment(4), 1);
        Check.due("text length", x.clearText(), WHOLE.length());
    }

    private static void loadRefuses() {
        BlockLayout x = Check.loaded("B4 10 32106204 21306 11304 42005302");
        x.swap(1, 3);
        x.setAlignment(8);
        x.save(1);
        String before = Check.portrait(x);
        String[] bad = {"", "B", WHOLE.substring(0, WHOLE.length() - 1), WHOLE + "0", "B1002", "B899"};
        for (String text : bad) {
            x.clearText();
            Check.type(x, text);
            x.errorPosition();
            Check.due("load of " + text, x.load(), BlockLayout.NOT_POSSIBLE);
            Check.due("state after refused load of " + text, Check.portrait(x), before);
        }
        Check.due("slot after refused load", x.save(1), 4);
        Check.due("states after refused load", x.undo(), 1);
        Check.due("slot kept", x.restore(1), 4);
        Check.due("state of the slot", Check.portrait(x), before);
    }
}
