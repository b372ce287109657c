/** The five examples of the document. */
public final class ExamplesTest {
    public static void main(String[] args) {
        fallThrough();
        sameSuccessorTwice();
        ownSuccessor();
        emptyBlock();
        newObject();
        Check.end();
    }

    private static BlockLayout typed(String text) {
        BlockLayout x = new BlockLayout();
        for (int i = 0; i < text.length(); i++) {
            Check.due("append " + i + " of " + text, x.append(text.charAt(i)), i + 1);
        }
        return x;
    }

    private static void fallThrough() {
        BlockLayout x = typed("B2071110520");
        Check.due("example 1 load", x.load(), 2);
        Check.due("example 1 cost", x.cost(), 0);
        Check.due("example 1 codeSize", x.codeSize(), 3);
        Check.due("example 1 edgeCost", x.edgeCost(0, 0), 0);
        Check.due("example 1 address", x.address(1), 1);
    }

    private static void sameSuccessorTwice() {
        BlockLayout x = typed("B200121051");
        Check.due("example 2 errorPosition", x.errorPosition(), 9);
        Check.due("example 2 load", x.load(), -3);
    }

    private static void ownSuccessor() {
        BlockLayout x = typed("B10011005");
        Check.due("example 3 load", x.load(), 1);
        Check.due("example 3 cost", x.cost(), 10);
        Check.due("example 3 executions", x.executions(0), 5);
        Check.due("example 3 setAlignment", x.setAlignment(8), 1);
        Check.due("example 3 address", x.address(0), 0);
        Check.due("example 3 swap", x.swap(0, 0), -3);
        Check.due("example 3 bypass", x.bypass(0), -3);
    }

    private static void emptyBlock() {
        BlockLayout x = typed("B2001110501007");
        Check.due("example 4 load", x.load(), 2);
        Check.due("example 4 bypass", x.bypass(1), 1);
    }

    private static void newObject() {
        BlockLayout x = new BlockLayout();
        Check.due("example 5 hotCount", x.hotCount(), 1);
        Check.due("example 5 optimalCost", x.optimalCost(), 0);
        Check.due("example 5 chainHead", x.chainHead(0), 0);
        Check.due("example 5 blockAt", x.blockAt(1), -1);
        Check.due("example 5 split", x.split(0), -2);
        Check.due("example 5 undo", x.undo(), -3);
    }
}
