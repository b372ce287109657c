/** Promise 1. */
public final class NewObjectTest {
    public static void main(String[] args) {
        BlockLayout x = new BlockLayout();
        Check.due("text of a new object", x.clearText(), 0);
        Check.due("blockCount", x.blockCount(), 1);
        Check.due("size", x.size(0), 0);
        Check.due("no successor", x.successor(0, 0), BlockLayout.NO_SUCH_INDEX);
        Check.due("no count", x.edgeCount(0, 0), BlockLayout.NO_SUCH_INDEX);
        Check.due("entry count 0", x.executions(0), 0);
        Check.due("layout", Check.order(x), "0");
        Check.due("hotCount", x.hotCount(), 1);
        Check.due("cost", x.cost(), 0);
        Check.due("codeSize", x.codeSize(), 0);
        Check.due("address", x.address(0), 0);
        Check.due("branchBytes", x.branchBytes(0), 0);
        Check.due("chainHead", x.chainHead(0), 0);
        Check.due("optimalCost", x.optimalCost(), 0);
        Check.due("no state remembered", x.undo(), BlockLayout.NOT_POSSIBLE);
        Check.due("slot 0 empty", x.restore(0), BlockLayout.NOT_POSSIBLE);
        Check.due("slot 1 empty", x.restore(1), BlockLayout.NOT_POSSIBLE);
        Check.due("execute", x.execute(123456789L, 99), 0);
        Check.due("alignment 1", x.setAlignment(2), 1);
        twoObjectsShareNothing();
        Check.end();
    }

    private static void twoObjectsShareNothing() {
        BlockLayout one = Check.loaded("B2 05 31107 20");
        BlockLayout other = new BlockLayout();
        one.save(0);
        Check.due("other blockCount", other.blockCount(), 1);
        Check.due("other text", other.errorPosition(), 0);
        Check.due("other slot", other.restore(0), BlockLayout.NOT_POSSIBLE);
        Check.due("own size", one.size(0), 3);
    }
}
