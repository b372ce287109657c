import java.util.function.Consumer;

/** The edges of promises 2 to 5 and of the section SETUP TEXT. */
public final class TextBoundsTest {
    private static final String DIGITS = "0123456789";
    private static final String SHORTEST = "B10000";
    private static final String LONGEST = "B899" + "92099199".repeat(8);
    private static final String MIDDLE = "B300" + "12105207" + "01199" + "90";

    public static void main(String[] args) {
        characterCodes();
        fullText();
        firstListedError();
        clearedText();
        clearTextLeavesTheRest();
        clearedSignsDoNotCount();
        letterB();
        numberOfBlocks();
        entryCount();
        sizesOfBlocks();
        numbersOfSuccessors();
        onlyBlock();
        successors();
        secondSuccessors();
        countsOfEdges();
        tooShort();
        behindASetup();
        firstOfSeveralErrors();
        completeSetups();
        loadsOfEachNumber();
        refusedLoads();
        loadForgetsAndEmpties();
        loadKeepsTheText();
        loadOfASmallerFunction();
        loadAfterAnotherFunction();
        Check.end();
    }

    private static Consumer<BlockLayout> richWith(String text) {
        return x -> {
            Twins.RICH.accept(x);
            x.clearText();
            Check.type(x, text);
        };
    }

    private static int errorOf(String text) {
        BlockLayout x = new BlockLayout();
        Check.type(x, text);
        return x.errorPosition();
    }

    /** Of all 256 signs just these may stand behind the beginning of a setup, which is not its end. */
    private static void next(String start, String signs) {
        for (char c = 0; c <= 255; c++) {
            int want = signs.indexOf(c) >= 0 ? start.length() + 1 : start.length();
            Check.due("sign " + (int) c + " behind " + start, errorOf(start + c), want);
        }
    }

    // ---- append

    private static void characterCodes() {
        Check.sentence("append: c is a character code, 0 to 255; BAD_VALUE if c is out of range");
        for (int c = 0; c <= 255; c++) {
            Check.due("append " + c, new BlockLayout().append(c), 1);
        }
        // The last four would be B or a digit if only their low byte were looked at.
        int[] bad = {Integer.MIN_VALUE, -256, -2, -1, 256, 257, Integer.MAX_VALUE, -190, 322, 65602, 304};
        for (int c : bad) {
            Twins.unchanged("append " + c, Twins.NEW, x -> x.append(c), BlockLayout.BAD_VALUE);
            Twins.unchanged("append " + c, Twins.RICH, x -> x.append(c), BlockLayout.BAD_VALUE);
        }
    }

    private static void fullText() {
        Check.sentence("append: FULL if the text already has 99 characters");
        BlockLayout x = new BlockLayout();
        for (int length = 1; length <= 99; length++) {
            Check.due("append up to " + length, x.append(length), length);
        }
        Check.due("append to 99", x.append(48), BlockLayout.FULL);
        Check.due("append to 99 again", x.append(66), BlockLayout.FULL);
        Check.due("clearText", x.clearText(), 99);
        for (int length = 1; length <= 99; length++) {
            Check.due("append up to " + length + " after clearText", x.append(48), length);
        }
        Check.due("append to 99 after clearText", x.append(48), BlockLayout.FULL);
        String filled = LONGEST + "0".repeat(31);
        int[] codes = {0, 48, 66, 255};
        for (int c : codes) {
            Twins.unchanged("append " + c + " to 99", richWith(filled), y -> y.append(c), BlockLayout.FULL);
        }
        String almost = filled.substring(0, 98);
        BlockLayout last = new BlockLayout();
        Check.type(last, almost);
        Check.due("append to 98", last.append(255), 99);
    }

    private static void firstListedError() {
        Check.sentence("append: BAD_VALUE is listed before FULL");
        Consumer<BlockLayout> filled = richWith("B".repeat(99));
        int[] bad = {Integer.MIN_VALUE, -1, 256, Integer.MAX_VALUE};
        for (int c : bad) {
            Twins.unchanged("append " + c + " to 99", filled, x -> x.append(c), BlockLayout.BAD_VALUE);
        }
    }

    // ---- clearText

    private static void clearedText() {
        Check.sentence("clearText: empties the text buffer; returns the previous length of the text");
        int[] lengths = {0, 1, 2, 98, 99};
        for (int length : lengths) {
            BlockLayout x = new BlockLayout();
            Check.type(x, (LONGEST + "0".repeat(31)).substring(0, length));
            Check.due("clearText of " + length, x.clearText(), length);
            Check.due("errorPosition after it", x.errorPosition(), 0);
            Check.due("load after it", x.load(), BlockLayout.NOT_POSSIBLE);
            Check.due("clearText again", x.clearText(), 0);
            Check.due("append after it", x.append(0), 1);
        }
        BlockLayout full = new BlockLayout();
        Check.type(full, "B".repeat(99));
        full.append(66);
        Check.due("clearText after a refused append", full.clearText(), 99);
    }

    private static void clearTextLeavesTheRest() {
        Check.sentence("the text is not part of the state; clearText is no action");
        BlockLayout x = new BlockLayout();
        Twins.RICH.accept(x);
        String before = Check.portrait(x);
        Check.due("clearText", x.clearText(), 11);
        Check.due("state", Check.portrait(x), before);
        Check.due("four states were remembered", x.undo(), 3);
        Check.due("undo leaves the text empty", x.errorPosition(), 0);
        Check.due("slot 0", x.restore(0), 4);
        Check.due("slot 1", x.restore(1), 3);
        Check.due("restore leaves the text empty", x.errorPosition(), 0);
    }

    private static void clearedSignsDoNotCount() {
        Check.sentence("clearText: empties the text buffer");
        for (int length = 0; length <= MIDDLE.length(); length++) {
            BlockLayout x = new BlockLayout();
            Check.type(x, MIDDLE);
            x.clearText();
            Check.type(x, MIDDLE.substring(0, length));
            boolean isWhole = length == MIDDLE.length();
            Check.due("errorPosition of " + length, x.errorPosition(), isWhole ? BlockLayout.NONE : length);
            Check.due("load of " + length, x.load(), isWhole ? 3 : BlockLayout.NOT_POSSIBLE);
            Check.due("clearText", x.clearText(), length);
        }
    }

    // ---- errorPosition

    private static void letterB() {
        Check.sentence("a setup is the letter B, ..");
        next("", "B");
    }

    private static void numberOfBlocks() {
        Check.sentence("the number of blocks (one digit, 1 to 8)");
        next("B", "12345678");
    }

    private static void entryCount() {
        Check.sentence("the entry count (two digits)");
        String[] starts = {"B1", "B8", "B10", "B19", "B80", "B89"};
        for (String start : starts) {
            next(start, DIGITS);
        }
    }

    private static void sizesOfBlocks() {
        Check.sentence("its size (one digit)");
        next("B100", DIGITS);
        next("B899", DIGITS);
        next("B200" + "00", DIGITS);
        next("B899" + "92099199".repeat(7), DIGITS);
    }

    private static void numbersOfSuccessors() {
        Check.sentence("the number of its successors (one digit, 0 to 2)");
        next("B2000", "012");
        next("B8999", "012");
        String last = "B899" + "92099199".repeat(7) + "9";
        Check.due("last block without successors", errorOf(last + "0"), BlockLayout.NONE);
        Check.due("last block with one", errorOf(last + "1"), last.length() + 1);
        Check.due("last block with two", errorOf(last + "2"), last.length() + 1);
        Check.due("last block with three", errorOf(last + "3"), last.length());
    }

    private static void onlyBlock() {
        Check.sentence("in a function with one block the number of successors is 0 or 1");
        Check.due("no successor", errorOf("B10000"), BlockLayout.NONE);
        Check.due("one successor", errorOf("B10001"), 6);
        Check.due("two successors", errorOf("B10002"), 5);
        Check.due("two successors of a greater function", errorOf("B20002"), 6);
        Check.due("two successors and all that would follow", errorOf("B10002000100"), 5);
    }

    private static void successors() {
        Check.sentence("for each successor the block (one digit); blocks are numbered 0 to n - 1");
        for (int n = 1; n <= 8; n++) {
            next("B" + n + "0001", DIGITS.substring(0, n));
        }
        next("B8" + "00" + "00".repeat(7) + "01", "01234567");
    }

    private static void secondSuccessors() {
        Check.sentence("the second successor of a block must be different from the first one");
        for (int n = 2; n <= 8; n++) {
            for (int first = 0; first < n; first++) {
                String others = DIGITS.substring(0, n).replace(String.valueOf(first), "");
                next("B" + n + "0002" + first + "00", others);
            }
        }
        Check.sentence("the same successor in two blocks is no error");
        Check.due("both blocks lead to 1", errorOf("B2000110501107"), BlockLayout.NONE);
    }

    private static void countsOfEdges() {
        Check.sentence("the count of the edge (two digits)");
        String[] starts = {"B200011", "B2000110", "B2000119", "B200021000", "B2000210000", "B2000210009"};
        for (String start : starts) {
            next(start, DIGITS);
        }
        Check.due("one digit of the last count", errorOf("B1000109"), 8);
        for (char c = '0'; c <= '9'; c++) {
            Check.due("last digit " + c, errorOf("B1000109" + c), BlockLayout.NONE);
        }
        Check.due("last sign is no digit", errorOf("B1000109/"), 8);
        Check.due("last sign is no digit", errorOf("B1000109:"), 8);
    }

    private static void tooShort() {
        Check.sentence("no such character but not a complete setup: the length of the text");
        String[] setups = {SHORTEST, MIDDLE, LONGEST, "B10001000"};
        for (String setup : setups) {
            for (int length = 0; length < setup.length(); length++) {
                Check.due(length + " signs of " + setup, errorOf(setup.substring(0, length)), length);
            }
        }
    }

    private static void behindASetup() {
        Check.sentence("behind a complete setup every character is an error");
        String[] setups = {SHORTEST, MIDDLE, LONGEST, "B10001000"};
        for (String setup : setups) {
            next(setup, "");
            Check.due("two signs behind", errorOf(setup + "00"), setup.length());
        }
        Check.due("99 signs", errorOf((LONGEST + LONGEST).substring(0, 99)), 68);
    }

    private static void firstOfSeveralErrors() {
        Check.sentence("the index of the first character such that ..");
        Check.due("all wrong", errorOf("xyz"), 0);
        Check.due("B twice", errorOf("BB1000"), 1);
        Check.due("errors at 2 and 4", errorOf("B1x0y0"), 2);
        Check.due("errors at 3 and 5", errorOf("B10x0y"), 3);
        Check.due("an error in the last sign alone", errorOf("B20000" + "0x"), 7);
        Check.due("an error and too short", errorOf("B9"), 1);
        Check.due("an error and too long", errorOf("b10000" + "0"), 0);
    }

    private static void completeSetups() {
        Check.sentence("NONE if the text is a complete setup");
        Check.due("shortest", errorOf(SHORTEST), BlockLayout.NONE);
        Check.due("middle", errorOf(MIDDLE), BlockLayout.NONE);
        Check.due("longest", errorOf(LONGEST), BlockLayout.NONE);
        Twins.unchanged("errorPosition", Twins.RICH, BlockLayout::errorPosition, BlockLayout.NONE);
        Twins.unchanged("errorPosition", Twins.NEW, BlockLayout::errorPosition, 0);
    }

    // ---- load

    private static void loadsOfEachNumber() {
        Check.sentence("load: returns the number of blocks; n from 1 to 8");
        for (int n = 1; n <= 8; n++) {
            BlockLayout x = new BlockLayout();
            Check.type(x, "B" + n + "00" + "90".repeat(n));
            Check.due("load of " + n, x.load(), n);
            Check.due("blockCount", x.blockCount(), n);
            Check.due("order", Check.order(x), "01234567".substring(0, n));
        }
        Check.sentence("load: NOT_POSSIBLE if the text is not a complete setup");
        String[] numbers = {"0", "9", "/", ":"};
        for (String n : numbers) {
            String text = "B" + n + "00" + "90".repeat(9);
            Twins.unchanged("load of " + text, richWith(text), BlockLayout::load, BlockLayout.NOT_POSSIBLE);
        }
    }

    private static void refusedLoads() {
        Check.sentence("load: NOT_POSSIBLE if the text is not a complete setup");
        String[] setups = {SHORTEST, MIDDLE, LONGEST, "B10001000"};
        for (String setup : setups) {
            String[] bad = {setup.substring(0, setup.length() - 1), setup + "0", setup.replace('B', 'b'),
                setup.substring(0, setup.length() - 1) + "/", "B", ""};
            for (String text : bad) {
                Twins.unchanged("load of " + text, richWith(text), BlockLayout::load, BlockLayout.NOT_POSSIBLE);
            }
            BlockLayout x = new BlockLayout();
            richWith(setup).accept(x);
            Check.due("load of " + setup, x.load(), setup.charAt(1) - '0');
        }
        Twins.unchanged("load of no text", Twins.NEW, BlockLayout::load, BlockLayout.NOT_POSSIBLE);
    }

    private static void loadForgetsAndEmpties() {
        Check.sentence("load: forgets all remembered states and empties both save slots");
        int[] actions = {0, 1, 13, 14, 15};
        for (int many : actions) {
            BlockLayout x = Check.loaded("B2 00 01105 00");
            x.save(0);
            x.save(1);
            for (int i = 0; i < many; i++) {
                x.setCount(0, 0, 10 + i);
            }
            Check.due("load", x.load(), 2);
            Check.due("count of the text", x.edgeCount(0, 0), 5);
            Check.due("undo after " + many, x.undo(), BlockLayout.NOT_POSSIBLE);
            Check.due("slot 0", x.restore(0), BlockLayout.NOT_POSSIBLE);
            Check.due("slot 1", x.restore(1), BlockLayout.NOT_POSSIBLE);
            for (int i = 1; i <= 14; i++) {
                x.setAlignment(2);
            }
            Check.due("room for 14 states again", x.undo(), 13);
        }
    }

    private static void loadKeepsTheText() {
        Check.sentence("load: keeps the text");
        BlockLayout x = Check.loaded("B2 00 01105 00");
        Check.due("errorPosition", x.errorPosition(), BlockLayout.NONE);
        Check.due("load again", x.load(), 2);
        Check.due("append behind it", x.append(48), 12);
        Check.due("errorPosition", x.errorPosition(), 11);
        Check.due("load", x.load(), BlockLayout.NOT_POSSIBLE);
        Check.due("clearText", x.clearText(), 12);
        Check.due("the function stays", x.blockCount(), 2);
    }

    private static void loadOfASmallerFunction() {
        Check.sentence("load: replaces the function by the one in the text; the alignment is 1 after it");
        BlockLayout x = Check.loaded("B8 99" + "92099199".repeat(8));
        x.setAlignment(16);
        x.split(99);
        Check.reload(x, SHORTEST);
        BlockLayout fresh = new BlockLayout();
        Check.due("as a new object", Check.portrait(x), Check.portrait(fresh));
        Check.due("no block 1", x.size(1), BlockLayout.NO_SUCH_INDEX);
        Check.due("no position 1", x.blockAt(1), BlockLayout.NO_SUCH_INDEX);
        Check.due("no slot", x.successor(0, 0), BlockLayout.NO_SUCH_INDEX);
        Check.due("alignment", x.setAlignment(16), 1);
        Check.reload(x, LONGEST);
        Check.due("alignment", x.setAlignment(16), 1);
        Check.due("all hot", Check.order(x), "01234567");
        Check.due("executions of 0", x.executions(0), 99 + 8 * 99);
    }

    /** The answers of calls that go through the successors and counts of all blocks. */
    private static String answers(BlockLayout x) {
        StringBuilder all = new StringBuilder();
        int n = x.blockCount();
        x.setAlignment(16);
        all.append(Check.portrait(x)).append(" optimum ").append(x.optimalCost());
        for (int b = 0; b < n; b++) {
            all.append(" chain ").append(x.chainHead(b)).append(" bytes ").append(x.branchBytes(b));
            all.append(" walk ").append(x.execute(b, 99)).append(" bypass ").append(x.bypass(b));
        }
        all.append(" chains ").append(x.orderByChains()).append(' ').append(Check.order(x));
        all.append(" split ").append(x.split(5)).append(' ').append(Check.portrait(x));
        return all.append(" optimum ").append(x.orderOptimally()).append(' ').append(Check.order(x)).toString();
    }

    private static void loadAfterAnotherFunction() {
        Check.sentence("load: replaces the function by the one in the text");
        String[] earlier = {LONGEST, "B800" + "02150250".repeat(8), "B899" + "01199".repeat(8), "B500" + "02450390".repeat(5)};
        String[] later = {"B800" + "00".repeat(8), "B800" + "10".repeat(8), "B600" + "01105" + "00".repeat(5),
            "B400" + "01107" + "01200" + "01309" + "00", "B300" + "01201" + "00" + "01103", SHORTEST, "B10001005"};
        for (String before : earlier) {
            for (String setup : later) {
                BlockLayout x = Check.loaded(before);
                Check.reload(x, setup);
                Check.due(setup + " after " + before, answers(x), answers(Check.loaded(setup)));
            }
        }
    }
}
