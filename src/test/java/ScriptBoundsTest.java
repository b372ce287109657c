import java.util.function.Consumer;

/** The edges of promise 30 and of the section SCRIPTS. */
public final class ScriptBoundsTest {
    private static final int OK = BlockLayout.NONE;
    private static final int FAILS = 0;
    /** Each block falls through to the next; the executions of 1 to 4 are 40, 30, 20 and 10. */
    private static final String LINE = "B5 00 11140 11230 11320 11410 10";

    public static void main(String[] args) {
        numbersOfCommands();
        negativeScripts();
        numbersOfDigits();
        scriptOf0();
        shorterScripts();
        results();
        for (int h = 1; h <= 5; h++) {
            swapsAndRotations(h);
            followers(h);
        }
        fourthDigits();
        splits();
        blocksOfAddresses();
        exactAddresses();
        exactCosts();
        exactCodeSizes();
        bypasses();
        followersInEightBlocks();
        otherGroups();
        aCopyOfTheState();
        oneAfterAnother();
        Check.end();
    }

    private static void refused(int n, long script) {
        String what = "runScript " + n + " " + script;
        Twins.unchanged(what, Twins.RICH, x -> x.runScript(n, script), BlockLayout.BAD_VALUE);
        Twins.unchanged(what, Twins.NEW, x -> x.runScript(n, script), BlockLayout.BAD_VALUE);
    }

    private static void one(BlockLayout x, int group, boolean succeeds) {
        Check.due("script " + group, x.runScript(1, group), succeeds ? OK : FAILS);
    }

    private static BlockLayout split(int h) {
        BlockLayout x = Check.loaded(LINE);
        x.split(60 - 10 * h);
        return x;
    }

    private static void numbersOfCommands() {
        Check.sentence("n: number of commands, 1 to 4; BAD_VALUE if n is out of range");
        int[] bad = {Integer.MIN_VALUE, -4, -1, 0, 5, 6, 257, Integer.MAX_VALUE};
        for (int n : bad) {
            refused(n, 0);
            refused(n, 5000);
            refused(n, 5000_5000_5000_5000L);
        }
        BlockLayout x = new BlockLayout();
        Check.due("1 command", x.runScript(1, 5000), OK);
        Check.due("2 commands", x.runScript(2, 5000_5000L), OK);
        Check.due("3 commands", x.runScript(3, 5000_5000_5000L), OK);
        Check.due("4 commands", x.runScript(4, 5000_5000_5000_5000L), OK);
    }

    private static void negativeScripts() {
        Check.sentence("BAD_VALUE if script is negative");
        long[] bad = {Long.MIN_VALUE, -5000_5000_5000_5000L, -10000, -9999, -5000, -1, Integer.MIN_VALUE};
        for (int n = 1; n <= 4; n++) {
            for (long script : bad) {
                refused(n, script);
            }
        }
    }

    private static void numbersOfDigits() {
        Check.sentence("BAD_VALUE if script has more than 4 * n digits");
        long limit = 1;
        for (int n = 1; n <= 4; n++) {
            limit *= 10000;
            refused(n, limit);
            refused(n, limit + 1);
            refused(n, limit * 10 + 5000);
            refused(n, Long.MAX_VALUE);
            int taken = n;
            long greatest = limit - 1;
            Twins.unchanged("greatest of " + n, Twins.RICH, x -> x.runScript(taken, greatest), FAILS);
        }
        refused(1, (1L << 32) + 5000);
        refused(1, (1L << 62) + 5000);
        refused(3, 5000_5000_5000_5000L);
        refused(2, 5000_5000_5000L);
        refused(1, 5000_5000L);
        refused(1, 1_5000L);
    }

    private static void scriptOf0() {
        Check.sentence("script: a number of at most 4 * n digits (0 or more)");
        for (int n = 1; n <= 4; n++) {
            int taken = n;
            Twins.unchanged("0 for " + n, Twins.RICH, x -> x.runScript(taken, 0), FAILS);
            Twins.unchanged("1 for " + n, Twins.RICH, x -> x.runScript(taken, 1), FAILS);
        }
    }

    private static void shorterScripts() {
        Check.sentence("the first command is the highest group of the number");
        BlockLayout x = new BlockLayout();
        for (int n = 2; n <= 4; n++) {
            Check.due("one group for " + n, x.runScript(n, 5000), FAILS);
        }
        Check.due("three digits", x.runScript(1, 500), FAILS);
        Check.due("seven digits", x.runScript(2, 500_5000L), FAILS);
        Check.due("three groups for 4", x.runScript(4, 5000_5000_5000L), FAILS);
    }

    private static void results() {
        Check.sentence("the index, from 0, of the first command that fails, or NONE if all succeed");
        BlockLayout x = new BlockLayout();
        for (int n = 1; n <= 4; n++) {
            for (int fails = 0; fails < 1 << n; fails++) {
                long script = 0;
                int want = OK;
                for (int i = 0; i < n; i++) {
                    boolean failing = (fails >> i & 1) != 0;
                    script = script * 10000 + (failing ? 5001 : 5000);
                    want = failing && want == OK ? i : want;
                }
                Check.due("script " + script, x.runScript(n, script), want);
            }
        }
    }

    private static void swapsAndRotations(int h) {
        Check.sentence("1 i j 0 fails where swap(i, j) returns an error; 2 i j 0 where rotate(i, j) does");
        BlockLayout x = split(h);
        for (int i = 0; i <= 9; i++) {
            for (int j = 0; j <= 9; j++) {
                boolean swaps = i > 0 && i < 5 && j > 0 && j < 5;
                one(x, 1000 + 100 * i + 10 * j, swaps);
                one(x, 2000 + 100 * i + 10 * j, i > 0 && i <= j && j < h);
            }
        }
    }

    private static void followers(int h) {
        Check.sentence("8 b c 0: succeeds if b and c are blocks and c is the follower of b");
        BlockLayout x = split(h);
        for (int b = 0; b <= 9; b++) {
            for (int c = 0; c <= 9; c++) {
                one(x, 8000 + 100 * b + 10 * c, c == b + 1 && c < 5 && c != h);
            }
        }
    }

    private static void followersInEightBlocks() {
        Check.sentence("8 b c 0 in a function of eight blocks");
        BlockLayout x = Check.loaded("B8 00" + "00".repeat(8));
        one(x, 8670, true);
        one(x, 8700, false);
        one(x, 8780, false);
        one(x, 8890, false);
        one(x, 8900, false);
    }

    private static void fourthDigits() {
        Check.sentence("the groups 1 i j 0, 2 i j 0, 7 b 0 0 and 8 b c 0; any other group fails");
        BlockLayout x = Check.loaded("B3 00 01105 01205 00");
        for (int d = 0; d <= 9; d++) {
            one(x, 1120 + d, d == 0);
            one(x, 2120 + d, d == 0);
            one(x, 7100 + d, d == 0);
            one(x, 7100 + 10 * d, d == 0);
            one(x, 8010 + d, d == 0);
        }
    }

    private static void splits() {
        Check.sentence("3 0 x y: splits with the threshold xy, 01 to 99");
        BlockLayout x = Check.loaded(LINE);
        for (int d = 0; d <= 9; d++) {
            one(x, 3000 + 100 * d, false);
            one(x, 3001 + 100 * d, d == 0);
            one(x, 3099 + 100 * d, d == 0);
        }
        Check.sentence("a threshold of two digits divides as split does");
        Check.due("40: 1 is hot", x.runScript(2, 3040_8010L), OK);
        Check.due("41: 1 is cold", x.runScript(2, 3041_8010L), 1);
        Check.due("10: 4 is hot", x.runScript(2, 3010_8340L), OK);
        Check.due("11: 4 is cold", x.runScript(2, 3011_8340L), 1);
        Check.due("cold blocks are rotated no more", x.runScript(2, 3011_2140L), 1);
        Check.due("the hot ones are", x.runScript(2, 3011_2130L), OK);
    }

    private static void blocksOfAddresses() {
        Check.sentence("4 b x y: succeeds if block b exists");
        for (int n = 1; n <= 8; n++) {
            BlockLayout x = Check.loaded("B" + n + "00" + "00".repeat(n));
            for (int b = 0; b <= 9; b++) {
                one(x, 4000 + 100 * b, b < n);
            }
        }
    }

    /** Blocks 1 to 6 are loop heads at multiples of 16; block 7 lies directly behind block 6. */
    private static BlockLayout far(int bytesOfBlock6) {
        BlockLayout x = Check.loaded("B8 00 10 11100 11200 11300 11400 11500 " + bytesOfBlock6 + "0 01600");
        x.setAlignment(16);
        return x;
    }

    private static void exactAddresses() {
        Check.sentence("4 b x y: its address is exactly xy");
        BlockLayout x = far(3);
        Check.due("address", x.address(7), 99);
        one(x, 4799, true);
        one(x, 4798, false);
        one(x, 4700, false);
        one(x, 4696, true);
        one(x, 4695, false);
        one(x, 4697, false);
        one(x, 4100, false);
        one(x, 4116, true);
        Check.sentence("an address of three digits is no xy");
        x = far(4);
        Check.due("address", x.address(7), 100);
        one(x, 4700, false);
        one(x, 4799, false);
        one(x, 4710, false);
        x = far(9);
        Check.due("address", x.address(7), 105);
        one(x, 4705, false);
    }

    private static void exactCosts() {
        Check.sentence("5 x y z: succeeds if the cost is exactly xyz");
        // Five loops of 198 each, and 0 leads to itself by a conditional branch 3 times.
        BlockLayout x = Check.loaded("B7 00 02100003 01199 01299 01399 01499 01599 01600");
        Check.due("cost", x.cost(), 999);
        one(x, 5999, true);
        one(x, 5998, false);
        one(x, 5000, false);
        x.setCount(0, 1, 0);
        x.setCount(6, 0, 5);
        Check.due("cost", x.cost(), 1000);
        one(x, 5000, false);
        one(x, 5999, false);
        one(x, 5100, false);
        x.setCount(6, 0, 4);
        Check.due("cost", x.cost(), 998);
        one(x, 5998, true);
        one(x, 5999, false);
        x = new BlockLayout();
        one(x, 5000, true);
        one(x, 5001, false);
    }

    private static void exactCodeSizes() {
        Check.sentence("6 x y z: succeeds if the code size is exactly xyz");
        BlockLayout x = new BlockLayout();
        one(x, 6000, true);
        one(x, 6001, false);
        x = far(1);
        Check.due("codeSize", x.codeSize(), 99);
        one(x, 6099, true);
        one(x, 6098, false);
        one(x, 6100, false);
        x = far(2);
        Check.due("codeSize", x.codeSize(), 100);
        one(x, 6100, true);
        one(x, 6000, false);
        one(x, 6099, false);
        one(x, 6101, false);
    }

    private static void bypasses() {
        Check.sentence("7 b 0 0: bypasses block b; it fails where bypass(b) returns an error");
        // 0 is the entry, 1 has a size, 2 has none, 3 has two, 4 has itself, 5 and 7 are free.
        BlockLayout x = Check.loaded("B8 00 01105 11505 00 02105205 01405 01705 00 01005");
        for (int b = 0; b <= 9; b++) {
            one(x, 7000 + 100 * b, b == 5 || b == 7);
        }
        Check.due("5 and then 7", x.runScript(2, 7500_7700L), OK);
        x = Check.loaded("B3 00 00 01205 01105");
        Check.due("1, which leaves 2 its own successor", x.runScript(2, 7100_7200L), 1);
        Check.due("2, which leaves 1 its own successor", x.runScript(2, 7200_7100L), 1);
        Check.due("1 twice", x.runScript(2, 7100_7100L), OK);
        x = Check.loaded("B2 00 00 01005");
        one(x, 7100, true);
        one(x, 7200, false);
        Check.sentence("the sum of both counts, but at most 99, in a script too");
        x = Check.loaded("B4 00 02150250 01205 00 00");
        // 0 jumps to 2, as 1 follows.
        Check.due("99 times 2", x.runScript(2, 7100_5198L), OK);
        Check.due("not 100 times", x.runScript(2, 7100_5200L), 1);
    }

    private static void otherGroups() {
        Check.sentence("any other group fails");
        BlockLayout x = null;
        for (int group = 0; group < 1000; group++) {
            if (group % 200 == 0) {
                x = Check.loaded("B3 00 01105 01205 00");
            }
            one(x, group, false);
            one(x, 9000 + group, false);
        }
    }

    private static void aCopyOfTheState() {
        Check.sentence("runs a script on a copy of the state");
        Consumer<BlockLayout> rich = Twins.RICH;
        Twins.unchanged("all commands", rich, x -> x.runScript(4, 1130_2120_3099_7100L), OK);
        Twins.unchanged("a change and a failure", rich, x -> x.runScript(4, 7100_1230_3001_9999L), 3);
        Twins.unchanged("a failure and a change", rich, x -> x.runScript(2, 1010_3099L), FAILS);
        Twins.unchanged("of a new object", Twins.NEW, x -> x.runScript(1, 3099), OK);
    }

    private static void oneAfterAnother() {
        Check.sentence("the commands run on a copy of the state, one after another");
        BlockLayout x = Check.loaded(LINE);
        Check.due("swap and back", x.runScript(4, 1120_8020_1120_8010L), OK);
        Check.due("rotation by 1", x.runScript(4, 2140_8020_8410_8340L), OK);
        Check.due("each script begins anew", x.runScript(4, 8010_8120_8230_8340L), OK);
        Check.due("the failing command ends the script", x.runScript(4, 3099_8010_9999_9999L), 1);
        Check.sentence("a copy of the state, which has the alignment too");
        x = Check.loaded("B2 00 30 01100");
        Check.due("not aligned", x.runScript(1, 4103), OK);
        x.setAlignment(16);
        Check.due("aligned", x.runScript(1, 4116), OK);
    }
}
