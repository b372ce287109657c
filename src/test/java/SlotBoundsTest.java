import java.util.function.Consumer;

/** The edges of promises 32 and 33. */
public final class SlotBoundsTest {
    private static final String LINE = "B5 00 11140 11230 11320 11410 10";
    private static final int[] BAD = {Integer.MIN_VALUE, -2, -1, 2, 3, 256, Integer.MAX_VALUE};

    public static void main(String[] args) {
        slotsOutOfRange();
        emptySlots();
        firstListedError();
        hotCounts();
        saveChangesNothingElse();
        savedAgain();
        slotKeepsItsState();
        allOfTheState();
        restoreForgets();
        textStays();
        newObject();
        Check.end();
    }

    private static void slotsOutOfRange() {
        Check.sentence("save, restore: NO_SUCH_INDEX if slot is not 0 or 1");
        for (int slot : BAD) {
            Twins.unchanged("save " + slot, Twins.RICH, x -> x.save(slot), BlockLayout.NO_SUCH_INDEX);
            Twins.unchanged("save " + slot, Twins.NEW, x -> x.save(slot), BlockLayout.NO_SUCH_INDEX);
            Twins.unchanged("restore " + slot, Twins.RICH, x -> x.restore(slot), BlockLayout.NO_SUCH_INDEX);
            Twins.unchanged("restore " + slot, Twins.NEW, x -> x.restore(slot), BlockLayout.NO_SUCH_INDEX);
        }
        for (int slot = 0; slot < 2; slot++) {
            BlockLayout x = new BlockLayout();
            Check.due("save " + slot, x.save(slot), 1);
            Check.due("restore " + slot, x.restore(slot), 1);
        }
    }

    private static void emptySlots() {
        Check.sentence("restore: NOT_POSSIBLE if the slot is empty");
        for (int full = 0; full < 2; full++) {
            int filled = full;
            int empty = 1 - full;
            Consumer<BlockLayout> steps = x -> {
                Check.reload(x, LINE);
                x.split(30);
                x.swap(1, 2);
                x.save(filled);
            };
            Twins.unchanged("restore " + empty, steps, x -> x.restore(empty), BlockLayout.NOT_POSSIBLE);
            BlockLayout x = new BlockLayout();
            steps.accept(x);
            Check.due("restore " + filled, x.restore(filled), 3);
            Check.due("restore of the empty one after it", x.restore(empty), BlockLayout.NOT_POSSIBLE);
            Check.due("the text is loaded", x.load(), 5);
            Check.due("load empties slot " + filled, x.restore(filled), BlockLayout.NOT_POSSIBLE);
        }
        Twins.unchanged("restore 0", Twins.NEW, x -> x.restore(0), BlockLayout.NOT_POSSIBLE);
        Twins.unchanged("restore 1", Twins.NEW, x -> x.restore(1), BlockLayout.NOT_POSSIBLE);
    }

    private static void firstListedError() {
        Check.sentence("restore: NO_SUCH_INDEX is listed before NOT_POSSIBLE");
        BlockLayout x = Check.loaded(LINE);
        Check.due("restore -1 with empty slots", x.restore(-1), BlockLayout.NO_SUCH_INDEX);
        Check.due("restore 0 with empty slots", x.restore(0), BlockLayout.NOT_POSSIBLE);
        Check.due("restore 1 with empty slots", x.restore(1), BlockLayout.NOT_POSSIBLE);
        Check.due("restore 2 with empty slots", x.restore(2), BlockLayout.NO_SUCH_INDEX);
    }

    private static void hotCounts() {
        Check.sentence("save, restore: returns the hot count");
        for (int h = 1; h <= 5; h++) {
            BlockLayout x = Check.loaded(LINE);
            x.split(60 - 10 * h);
            Check.due("save", x.save(0), h);
            x.split(h == 1 ? 1 : 99);
            Check.due("another hot count", x.save(1), h == 1 ? 5 : 1);
            Check.due("restore", x.restore(0), h);
            Check.due("hotCount", x.hotCount(), h);
        }
    }

    private static void saveChangesNothingElse() {
        Check.sentence("save: stores the present state; it is no action");
        for (int actions = 13; actions <= 15; actions++) {
            BlockLayout x = Check.loaded("B2 00 01100 00");
            for (int c = 1; c <= actions; c++) {
                x.setCount(0, 0, c);
            }
            x.save(0);
            x.save(1);
            Check.due("count", x.edgeCount(0, 0), actions);
            Check.due("undo", x.undo(), Math.min(14, actions) - 1);
            Check.due("count", x.edgeCount(0, 0), actions - 1);
        }
    }

    private static void savedAgain() {
        Check.sentence("save: stores the present state in a save slot");
        BlockLayout x = Check.loaded("B2 00 01105 00");
        x.save(0);
        x.setCount(0, 0, 6);
        x.save(0);
        x.save(1);
        x.setCount(0, 0, 7);
        x.save(1);
        x.restore(0);
        Check.due("the later one of slot 0", x.edgeCount(0, 0), 6);
        x.restore(1);
        Check.due("the later one of slot 1", x.edgeCount(0, 0), 7);
    }

    private static void slotKeepsItsState() {
        Check.sentence("restore: the slot keeps its state");
        BlockLayout x = Check.loaded("B2 00 01105 00");
        x.save(1);
        for (int round = 1; round <= 3; round++) {
            x.setCount(0, 0, 50 + round);
            Check.due("restore " + round, x.restore(1), 2);
            Check.due("count", x.edgeCount(0, 0), 5);
        }
        x.setCount(0, 0, 60);
        x.undo();
        x.split(99);
        Check.due("after undo and split", x.restore(1), 2);
        Check.due("hotCount", x.hotCount(), 2);
        Check.due("restore twice", x.restore(1), 2);
    }

    private static void allOfTheState() {
        Check.sentence("restore: replaces the state: successors, counts, layout, hot count and alignment");
        BlockLayout x = new BlockLayout();
        Twins.RICH.accept(x);
        x.save(0);
        String before = Check.portrait(x);
        x.bypass(1);
        x.setCount(3, 0, 9);
        x.setAlignment(2);
        x.orderByChains();
        x.orderOptimally();
        Check.due("restore", x.restore(0), 3);
        Check.due("state", Check.portrait(x), before);
        Check.due("alignment", x.setAlignment(1), 8);
    }

    private static void restoreForgets() {
        Check.sentence("restore: forgets all remembered states; it is no action");
        int[] actions = {0, 1, 13, 14, 15};
        for (int many : actions) {
            BlockLayout x = Check.loaded("B2 00 01105 00");
            x.save(0);
            for (int i = 0; i < many; i++) {
                x.setCount(0, 0, 20 + i);
            }
            Check.due("restore", x.restore(0), 2);
            Check.due("undo after " + many, x.undo(), BlockLayout.NOT_POSSIBLE);
            Check.due("count", x.edgeCount(0, 0), 5);
            for (int i = 1; i <= 14; i++) {
                x.setCount(0, 0, i);
            }
            Check.due("room for 14 states again", x.undo(), 13);
        }
    }

    private static void textStays() {
        Check.sentence("the text, the sizes and the entry count are not part of the state");
        BlockLayout x = Check.loaded("B2 33 51105 60");
        x.save(0);
        x.append(48);
        x.restore(0);
        Check.due("text", x.errorPosition(), 11);
        Check.due("length", x.clearText(), 12);
        x.restore(0);
        Check.due("empty text", x.clearText(), 0);
        Check.due("size", x.size(1), 6);
        Check.due("entry count", x.executions(0), 33);
    }

    private static void newObject() {
        Check.sentence("a new object can be saved too, and its slots are gone with a load");
        BlockLayout x = new BlockLayout();
        Check.due("save 0", x.save(0), 1);
        Check.due("save 1", x.save(1), 1);
        x.setAlignment(16);
        Check.due("restore 1", x.restore(1), 1);
        Check.due("alignment", x.setAlignment(4), 1);
        Check.reload(x, LINE);
        Check.due("restore 0", x.restore(0), BlockLayout.NOT_POSSIBLE);
        Check.due("restore 1", x.restore(1), BlockLayout.NOT_POSSIBLE);
    }
}
