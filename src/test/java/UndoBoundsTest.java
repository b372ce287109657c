import java.util.function.Consumer;
import java.util.function.ToIntFunction;

/** The edges of promise 29 and of the section ACTIONS AND UNDO. */
public final class UndoBoundsTest {
    private static final String RICH_SETUP = "B4 10 32106204 01306 11304 42005302";

    public static void main(String[] args) {
        nothingRemembered();
        upToFourteen();
        moreThanFourteen();
        longRuns();
        fullAfterUndo();
        everyActionIsTakenBack();
        equalStatesAreActions();
        refusedCallsAreNoActions();
        otherCallsAreNoActions();
        textStays();
        slotsStay();
        undoIsNoAction();
        Check.end();
    }

    private static Consumer<BlockLayout> acted(int actions) {
        return x -> {
            Check.reload(x, "B2 00 01100 00");
            for (int c = 1; c <= actions; c++) {
                x.setCount(0, 0, c);
            }
        };
    }

    private static void nothingRemembered() {
        Check.sentence("undo: NOT_POSSIBLE if none is remembered");
        Twins.unchanged("undo of a new object", Twins.NEW, BlockLayout::undo, BlockLayout.NOT_POSSIBLE);
        Twins.unchanged("undo after load", acted(0), BlockLayout::undo, BlockLayout.NOT_POSSIBLE);
        Consumer<BlockLayout> undone = x -> {
            Twins.RICH.accept(x);
            for (int i = 0; i < 4; i++) {
                x.undo();
            }
        };
        Twins.unchanged("undo after all is undone", undone, BlockLayout::undo, BlockLayout.NOT_POSSIBLE);
        Consumer<BlockLayout> restored = x -> {
            Twins.RICH.accept(x);
            x.restore(1);
        };
        Twins.unchanged("undo after restore", restored, BlockLayout::undo, BlockLayout.NOT_POSSIBLE);
        BlockLayout x = new BlockLayout();
        acted(1).accept(x);
        Check.due("undo of one", x.undo(), 0);
        Check.due("undo of none", x.undo(), BlockLayout.NOT_POSSIBLE);
        Check.due("undo of none again", x.undo(), BlockLayout.NOT_POSSIBLE);
    }

    /** Takes back all that is remembered after so many actions. */
    private static void takeBackAll(int actions) {
        BlockLayout x = new BlockLayout();
        acted(actions).accept(x);
        int remembered = Math.min(14, actions);
        Check.due("count after " + actions, x.edgeCount(0, 0), actions);
        for (int left = remembered - 1; left >= 0; left--) {
            Check.due("undo after " + actions, x.undo(), left);
            Check.due("count with " + left + " left", x.edgeCount(0, 0), actions - remembered + left);
        }
        Check.due("undo of none after " + actions, x.undo(), BlockLayout.NOT_POSSIBLE);
        Check.due("the oldest remembered state", x.edgeCount(0, 0), actions - remembered);
    }

    private static void upToFourteen() {
        Check.sentence("the object remembers the state before each of the last 14 actions");
        for (int actions = 0; actions <= 14; actions++) {
            takeBackAll(actions);
        }
    }

    private static void moreThanFourteen() {
        Check.sentence("when a fifteenth action happens, the oldest remembered state is forgotten");
        for (int actions = 15; actions <= 45; actions++) {
            takeBackAll(actions);
        }
    }

    private static void longRuns() {
        Check.sentence("the last 14 actions, however many there were");
        BlockLayout x = Check.loaded("B2 00 01100 00");
        for (int i = 1; i <= 400; i++) {
            x.setCount(0, 0, i % 100);
        }
        for (int left = 13; left >= 0; left--) {
            Check.due("undo", x.undo(), left);
            Check.due("count with " + left + " left", x.edgeCount(0, 0), (386 + left) % 100);
        }
        Check.due("none left", x.undo(), BlockLayout.NOT_POSSIBLE);
    }

    private static void fullAfterUndo() {
        Check.sentence("undo: takes back the last action that is remembered");
        for (int back = 0; back <= 14; back++) {
            BlockLayout x = new BlockLayout();
            acted(15).accept(x);
            for (int i = 0; i < back; i++) {
                x.undo();
            }
            Check.due("count after " + back, x.edgeCount(0, 0), 15 - back);
            x.setCount(0, 0, 77);
            x.setCount(0, 0, 78);
            int remembered = Math.min(14, 14 - back + 2);
            Check.due("undo", x.undo(), remembered - 1);
            Check.due("count", x.edgeCount(0, 0), 77);
            Check.due("undo", x.undo(), remembered - 2);
            Check.due("count", x.edgeCount(0, 0), 15 - back);
            for (int left = remembered - 3; left >= 0; left--) {
                Check.due("undo", x.undo(), left);
            }
            Check.due("none left", x.undo(), BlockLayout.NOT_POSSIBLE);
            Check.due("the oldest", x.edgeCount(0, 0), 15 - back - (remembered - 2));
        }
    }

    private static void takenBack(String what, ToIntFunction<BlockLayout> action) {
        BlockLayout x = Check.loaded(RICH_SETUP);
        x.setAlignment(8);
        x.split(5);
        x.swap(1, 2);
        String before = Check.portrait(x);
        Check.isTrue(what + " succeeds", action.applyAsInt(x) >= 0);
        Check.isTrue(what + " changes something", !Check.portrait(x).equals(before));
        Check.due("undo of " + what, x.undo(), 3);
        Check.due("state after undo of " + what, Check.portrait(x), before);
        Check.due("alignment after undo of " + what, x.setAlignment(1), 8);
    }

    private static void everyActionIsTakenBack() {
        Check.sentence("the state consists of the successors, the counts of the edges, the layout, the hot count and the alignment");
        takenBack("orderByChains", BlockLayout::orderByChains);
        takenBack("orderOptimally", BlockLayout::orderOptimally);
        takenBack("swap", x -> x.swap(1, 3));
        takenBack("rotate", x -> x.rotate(1, 2));
        takenBack("split", x -> x.split(1));
        takenBack("bypass", x -> x.bypass(1));
        takenBack("setCount", x -> x.setCount(3, 1, 99));
        takenBack("setAlignment", x -> x.setAlignment(16));
    }

    private static void twice(String what, ToIntFunction<BlockLayout> action) {
        BlockLayout x = Check.loaded("B3 00 01150 01250 00");
        action.applyAsInt(x);
        String once = Check.portrait(x);
        Check.isTrue(what + " again succeeds", action.applyAsInt(x) >= 0);
        Check.due("state after " + what + " again", Check.portrait(x), once);
        Check.due("undo of " + what + " again", x.undo(), 1);
        Check.due("state after the first undo", Check.portrait(x), once);
        Check.due("undo of " + what, x.undo(), 0);
    }

    private static void equalStatesAreActions() {
        Check.sentence("each successful call of one of them is an action, even if the state stays equal");
        twice("orderByChains", BlockLayout::orderByChains);
        twice("orderOptimally", BlockLayout::orderOptimally);
        twice("swap 1 1", x -> x.swap(1, 1));
        twice("rotate 2 2", x -> x.rotate(2, 2));
        twice("split", x -> x.split(99));
        twice("bypass", x -> x.bypass(1));
        twice("setCount", x -> x.setCount(0, 0, 50));
        twice("setAlignment", x -> x.setAlignment(1));
    }

    /** With 14 states remembered an action would forget one, which a full look at them shows. */
    private static void noAction(String what, ToIntFunction<BlockLayout> call, int want) {
        Twins.unchanged(what + " with 14 states", acted(14), call, want);
        Twins.unchanged(what + " with 13 states", acted(13), call, want);
        Twins.unchanged(what + " with none", acted(0), call, want);
    }

    private static void refusedCallsAreNoActions() {
        Check.sentence("a call that returns an error changes nothing and is not an action");
        noAction("swap 0 1", x -> x.swap(0, 1), BlockLayout.NOT_POSSIBLE);
        noAction("swap 1 2", x -> x.swap(1, 2), BlockLayout.NO_SUCH_INDEX);
        noAction("rotate 0 1", x -> x.rotate(0, 1), BlockLayout.NOT_POSSIBLE);
        noAction("rotate 1 2", x -> x.rotate(1, 2), BlockLayout.NO_SUCH_INDEX);
        noAction("split 0", x -> x.split(0), BlockLayout.BAD_VALUE);
        noAction("split 100", x -> x.split(100), BlockLayout.BAD_VALUE);
        noAction("bypass 0", x -> x.bypass(0), BlockLayout.NOT_POSSIBLE);
        noAction("bypass 2", x -> x.bypass(2), BlockLayout.NO_SUCH_INDEX);
        noAction("setCount 0 1", x -> x.setCount(0, 1, 5), BlockLayout.NO_SUCH_INDEX);
        noAction("setCount to 100", x -> x.setCount(0, 0, 100), BlockLayout.BAD_VALUE);
        noAction("setAlignment 3", x -> x.setAlignment(3), BlockLayout.BAD_VALUE);
        noAction("runScript", x -> x.runScript(0, 0), BlockLayout.BAD_VALUE);
        noAction("execute", x -> x.execute(1, 0), BlockLayout.BAD_VALUE);
        noAction("save 2", x -> x.save(2), BlockLayout.NO_SUCH_INDEX);
        noAction("restore 2", x -> x.restore(2), BlockLayout.NO_SUCH_INDEX);
        noAction("restore 0", x -> x.restore(0), BlockLayout.NOT_POSSIBLE);
        noAction("append 256", x -> x.append(256), BlockLayout.BAD_VALUE);
    }

    private static void otherCallsAreNoActions() {
        Check.sentence("the methods in the section \"actions\" change the state; the others are no actions");
        noAction("errorPosition", BlockLayout::errorPosition, BlockLayout.NONE);
        noAction("optimalCost", BlockLayout::optimalCost, 0);
        noAction("bestRotation", x -> x.bestRotation(1, 1), 0);
        noAction("runScript", x -> x.runScript(1, 1110), BlockLayout.NONE);
        noAction("runScript", x -> x.runScript(2, 3099_9999L), 1);
        noAction("execute", x -> x.execute(1, 99), 0);
        BlockLayout x = new BlockLayout();
        acted(14).accept(x);
        x.save(0);
        x.clearText();
        x.append(66);
        x.load();
        Check.due("undo after save, clearText, append and a refused load", x.undo(), 13);
        Check.due("count", x.edgeCount(0, 0), 13);
    }

    private static void textStays() {
        Check.sentence("the text is not part of the state");
        BlockLayout x = new BlockLayout();
        acted(2).accept(x);
        x.append(48);
        Check.due("undo", x.undo(), 1);
        Check.due("text after undo", x.errorPosition(), 11);
        Check.due("clearText", x.clearText(), 12);
        Check.due("undo", x.undo(), 0);
        Check.due("text stays empty", x.clearText(), 0);
    }

    private static void slotsStay() {
        Check.sentence("the save slots are not part of the state");
        BlockLayout x = new BlockLayout();
        acted(2).accept(x);
        x.save(0);
        x.undo();
        x.undo();
        Check.due("slot 1 is still empty", x.restore(1), BlockLayout.NOT_POSSIBLE);
        Check.due("slot 0 is still full", x.restore(0), 2);
        Check.due("with its count", x.edgeCount(0, 0), 2);
    }

    private static void undoIsNoAction() {
        Check.sentence("undo, load and restore are not actions");
        BlockLayout x = new BlockLayout();
        acted(3).accept(x);
        Check.due("undo", x.undo(), 2);
        Check.due("undo does not take back undo", x.undo(), 1);
        Check.due("count", x.edgeCount(0, 0), 1);
        x.save(1);
        x.restore(1);
        Check.due("restore is not taken back", x.undo(), BlockLayout.NOT_POSSIBLE);
        x.load();
        Check.due("load is not taken back", x.undo(), BlockLayout.NOT_POSSIBLE);
        Check.due("count of the text", x.edgeCount(0, 0), 0);
    }
}
