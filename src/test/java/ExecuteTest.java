/** Promise 31. */
public final class ExecuteTest {
    public static void main(String[] args) {
        badValues();
        withoutSuccessors();
        oneSuccessor();
        twoSuccessors();
        countsOfZero();
        joinedEdge();
        followsTheLayout();
        nothingChanges();
        Check.end();
    }

    private static void badValues() {
        BlockLayout x = Check.loaded("B1 00 01005");
        int[] bad = {Integer.MIN_VALUE, -1, 0, 100, Integer.MAX_VALUE};
        for (int m : bad) {
            Check.due("execute steps " + m, x.execute(7, m), BlockLayout.BAD_VALUE);
        }
        long[] seeds = {Long.MIN_VALUE, -1, 0, 1, Long.MAX_VALUE};
        for (long seed : seeds) {
            Check.due("seed " + seed, x.execute(seed, 1), 2);
            Check.due("99 steps of seed " + seed, x.execute(seed, 99), 198);
        }
    }

    private static void withoutSuccessors() {
        // The walk is 0 2 0 2 ..: a step with a jump for 2, and one back without cost.
        BlockLayout x = Check.loaded("B3 00 01205 01005 00");
        Check.due("1 step", x.execute(3, 1), 2);
        Check.due("2 steps", x.execute(3, 2), 2);
        Check.due("3 steps", x.execute(3, 3), 4);
        Check.due("99 steps", x.execute(3, 99), 100);
    }

    private static void oneSuccessor() {
        // The walk is 0 1 2 0 1 2 ..: two steps fall through, one jumps.
        BlockLayout x = Check.loaded("B3 00 01100 01200 01000");
        Check.due("2 steps", x.execute(-5, 2), 0);
        Check.due("3 steps", x.execute(-5, 3), 2);
        Check.due("98 steps", x.execute(-5, 98), 64);
        Check.due("99 steps", x.execute(-5, 99), 66);
    }

    /** The document's numbers once more, for a block that leads to itself in one slot. */
    private static int chosenSlots(long seed, int m, int c, int t) {
        int slots = 0;
        long x = seed;
        for (int i = 0; i < m; i++) {
            x = x * 6364136223846793005L + 1442695040888963407L;
            int v = (int) (x >>> 33);
            slots += v % t < c ? 0 : 1;
        }
        return slots;
    }

    private static void twoSuccessors() {
        long[] seeds = {Long.MIN_VALUE, -77, 0, 1, 5, 99, 123456789012345L, Long.MAX_VALUE};
        // Both blocks lead to 1 by slot 1 and to 0 by slot 0, with the same counts.
        BlockLayout x = Check.loaded("B2 00 02030120 02030120");
        Check.due("0 to itself", x.edgeCost(0, 0), 3);
        Check.due("0 to 1", x.edgeCost(0, 1), 0);
        Check.due("1 to 0", x.edgeCost(1, 0), 3);
        Check.due("1 to itself", x.edgeCost(1, 1), 2);
        for (long seed : seeds) {
            x = Check.loaded("B2 00 02030120 02030120");
            for (int m = 1; m <= 99; m++) {
                Check.due("seed " + seed + " steps " + m, x.execute(seed, m), expected(seed, m));
            }
        }
    }

    private static int expected(long seed, int m) {
        int sum = 0;
        int slotBefore = 0;
        for (int i = 1; i <= m; i++) {
            int slot = chosenSlots(seed, i, 30, 50) - chosenSlots(seed, i - 1, 30, 50);
            sum += slot == 0 ? 3 : slotBefore == 0 ? 0 : 2;
            slotBefore = slot;
        }
        return sum;
    }

    private static void countsOfZero() {
        BlockLayout x = Check.loaded("B2 00 02000100 00");
        Check.due("both 0: always slot 0", x.execute(11, 99), 99 * 3);
        x = Check.loaded("B2 00 02000101 01100");
        Check.due("slot 0 never", x.execute(11, 99), 98 * 2);
        x = Check.loaded("B2 00 02001100 01100");
        Check.due("slot 1 never", x.execute(11, 99), 99 * 3);
    }

    private static void joinedEdge() {
        // Blocks 0 and 1 led to each other by both slots; behind the bypass 0 has its own loop alone.
        BlockLayout x = Check.loaded("B3 00 02010190 01005 00");
        Check.due("bypass", x.bypass(1), 1);
        Check.due("one successor", x.successor(0, 1), BlockLayout.NO_SUCH_INDEX);
        for (int seed = 0; seed < 20; seed++) {
            Check.due("seed " + seed, x.execute(seed, 99), 99 * 2);
        }
        Check.reload(x, "B3 00 02105290 00 00");
        Check.reload(x, "B3 00 01105 00 00");
        for (int seed = 0; seed < 20; seed++) {
            Check.due("seed " + seed + " of the next function", x.execute(seed, 99), 0);
        }
    }

    private static void followsTheLayout() {
        BlockLayout x = Check.loaded("B3 00 01205 00 01005");
        Check.due("two jumps a round", x.execute(1, 98), 2 * 98);
        x.swap(1, 2);
        Check.due("one jump a round", x.execute(1, 98), 98);
        x.split(99);
        Check.due("cold", x.execute(1, 98), 2 * 98);
    }

    private static void nothingChanges() {
        BlockLayout x = Check.loaded("B3 00 02205107 01205 01005");
        String before = Check.portrait(x);
        int first = x.execute(42, 50);
        Check.due("the same again", x.execute(42, 50), first);
        Check.due("state", Check.portrait(x), before);
        Check.due("no action", x.undo(), BlockLayout.NOT_POSSIBLE);
    }
}
