/** Promises 32 and 33. */
public final class SlotsTest {
    private static final String FOUR = "B4 10 32106204 01306 11304 42005302";

    public static void main(String[] args) {
        wrongSlots();
        emptySlots();
        restoreBringsTheStateBack();
        slotsAreApart();
        restoreForgets();
        undoLeavesSlots();
        Check.end();
    }

    private static void wrongSlots() {
        BlockLayout x = Check.loaded(FOUR);
        int[] bad = {Integer.MIN_VALUE, -1, 2, 3, Integer.MAX_VALUE};
        for (int slot : bad) {
            Check.due("save " + slot, x.save(slot), BlockLayout.NO_SUCH_INDEX);
            Check.due("restore " + slot, x.restore(slot), BlockLayout.NO_SUCH_INDEX);
        }
    }

    private static void emptySlots() {
        BlockLayout x = Check.loaded(FOUR);
        x.swap(1, 2);
        Check.due("save 1", x.save(1), 4);
        Check.due("slot 0 is empty", x.restore(0), BlockLayout.NOT_POSSIBLE);
        Check.due("a refused restore forgets nothing", x.undo(), 0);
        Check.due("slot 1 is not", x.restore(1), 4);
        Check.due("order", Check.order(x), "0213");
    }

    private static void restoreBringsTheStateBack() {
        BlockLayout x = Check.loaded(FOUR);
        x.setAlignment(8);
        x.split(5);
        String before = Check.portrait(x);
        Check.due("save", x.save(0), 3);
        x.bypass(1);
        x.setCount(0, 0, 77);
        x.setAlignment(2);
        x.orderByChains();
        x.swap(1, 3);
        Check.due("restore", x.restore(0), 3);
        Check.due("state", Check.portrait(x), before);
        Check.due("alignment", x.setAlignment(1), 8);
        x.split(99);
        Check.due("the slot keeps its state", x.restore(0), 3);
        Check.due("state again", Check.portrait(x), before);
    }

    private static void slotsAreApart() {
        BlockLayout x = Check.loaded(FOUR);
        x.save(0);
        x.swap(1, 3);
        x.save(1);
        x.split(99);
        x.restore(0);
        Check.due("slot 0", Check.order(x), "0123");
        x.restore(1);
        Check.due("slot 1", Check.order(x), "0321");
        x.split(99);
        Check.due("save over it", x.save(0), 1);
        x.restore(1);
        Check.due("slot 1 again", Check.order(x), "0321");
        Check.due("slot 0 anew", x.restore(0), 1);
        Check.due("its order", Check.order(x), "0|321");
        x.swap(1, 2);
        x.restore(0);
        Check.due("not changed by actions", Check.order(x), "0|321");
    }

    private static void restoreForgets() {
        BlockLayout x = Check.loaded(FOUR);
        x.swap(1, 2);
        x.save(0);
        Check.due("save is no action and forgets nothing", x.undo(), 0);
        x.swap(1, 3);
        x.restore(0);
        Check.due("all forgotten", x.undo(), BlockLayout.NOT_POSSIBLE);
        x.rotate(1, 2);
        Check.due("restore is no action", x.undo(), 0);
        Check.due("order", Check.order(x), "0213");
    }

    private static void undoLeavesSlots() {
        BlockLayout x = Check.loaded(FOUR);
        x.swap(1, 2);
        x.save(0);
        x.undo();
        Check.due("undone", Check.order(x), "0123");
        Check.due("the slot stays", x.restore(0), 4);
        Check.due("order", Check.order(x), "0213");
    }
}
