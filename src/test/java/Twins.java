import java.util.function.Consumer;
import java.util.function.ToIntFunction;

/**
 * Calls that are refused, or that only ask, change nothing. Two objects go through the same steps,
 * the call goes to one of them alone, and then both must tell the same of all that can be asked:
 * the state, the text, the remembered states and the save slots.
 */
final class Twins {
    /** Alignment 8, order 031|2, four remembered states, two slots, and another setup as the text. */
    static final Consumer<BlockLayout> RICH = Twins::enrich;
    static final Consumer<BlockLayout> NEW = x -> { };

    private Twins() {
    }

    static void unchanged(String what, Consumer<BlockLayout> steps, ToIntFunction<BlockLayout> call, int want) {
        BlockLayout asked = new BlockLayout();
        BlockLayout left = new BlockLayout();
        steps.accept(asked);
        steps.accept(left);
        Check.due(what, call.applyAsInt(asked), want);
        Check.due("all that can be asked after " + what, testament(asked), testament(left));
    }

    /** The loaded function behind one action, with one slot; the text is still its setup. */
    static Consumer<BlockLayout> of(String setup) {
        return x -> {
            Check.reload(x, setup);
            x.setAlignment(4);
            x.save(1);
        };
    }

    private static void enrich(BlockLayout x) {
        Check.reload(x, "B4 10 32106204 01306 11304 42005302");
        x.setAlignment(8);
        x.save(0);
        x.split(5);
        x.swap(1, 2);
        x.save(1);
        x.setCount(0, 0, 50);
        x.clearText();
        Check.type(x, "B2071110520");
    }

    /** Takes the object apart: undo before restore, as that forgets, and load last, as it empties. */
    private static String testament(BlockLayout x) {
        StringBuilder all = new StringBuilder(Check.portrait(x)).append(" text ").append(x.errorPosition());
        int left = x.undo();
        for (int i = 0; i < 14 && left >= 0; i++) {
            all.append("\n undo ").append(left).append(' ').append(Check.portrait(x));
            left = x.undo();
        }
        all.append("\n undo ").append(left).append(" alignment ").append(x.setAlignment(1));
        for (int slot = 0; slot < 2; slot++) {
            all.append("\n restore ").append(x.restore(slot)).append(' ').append(Check.portrait(x));
            all.append(" alignment ").append(x.setAlignment(1));
        }
        all.append("\n load ").append(x.load()).append(' ').append(Check.portrait(x));
        return all.append(" length ").append(x.clearText()).toString();
    }
}
