/** Promise 30. */
public final class ScriptTest {
    private static final String FOUR = "B4 10 32106204 21306 11304 42005302";
    private static final int FAILS = 0;
    private static final int OK = BlockLayout.NONE;

    public static void main(String[] args) {
        badValues();
        swapsAndRotations();
        splits();
        addresses();
        costsAndSizes();
        bypasses();
        followers();
        otherGroupsFail();
        firstCommandIsTheHighest();
        commandsSeeTheChanges();
        nothingChanges();
        Check.end();
    }

    private static void one(BlockLayout x, int group, int want) {
        Check.due("script " + group, x.runScript(1, group), want);
    }

    private static void badValues() {
        BlockLayout x = Check.loaded(FOUR);
        int[] badNumbers = {Integer.MIN_VALUE, -1, 0, 5, Integer.MAX_VALUE};
        for (int n : badNumbers) {
            Check.due("n " + n, x.runScript(n, 5043), BlockLayout.BAD_VALUE);
            Check.due("nothing, n " + n, x.runScript(n, 0), BlockLayout.BAD_VALUE);
            Check.due("negative, n " + n, x.runScript(n, -5), BlockLayout.BAD_VALUE);
        }
        long limit = 1;
        for (int n = 1; n <= 4; n++) {
            limit *= 10000;
            Check.due("too many digits for " + n, x.runScript(n, limit), BlockLayout.BAD_VALUE);
            Check.due("most digits for " + n, x.runScript(n, limit - 1), 0);
            Check.due("greatest long for " + n, x.runScript(n, Long.MAX_VALUE), BlockLayout.BAD_VALUE);
            Check.due("least long for " + n, x.runScript(n, Long.MIN_VALUE), BlockLayout.BAD_VALUE);
            Check.due("-1 for " + n, x.runScript(n, -1), BlockLayout.BAD_VALUE);
            Check.due("0 for " + n, x.runScript(n, 0), 0);
        }
        Check.due("too many digits by an int's width", x.runScript(1, (1L << 32) + 5043), BlockLayout.BAD_VALUE);
    }

    private static void swapsAndRotations() {
        BlockLayout x = Check.loaded(FOUR);
        one(x, 1120, OK);
        one(x, 1330, OK);
        one(x, 1121, FAILS);
        one(x, 1100, FAILS);
        one(x, 1010, FAILS);
        one(x, 1140, FAILS);
        one(x, 1490, FAILS);
        one(x, 2130, OK);
        one(x, 2220, OK);
        one(x, 2131, FAILS);
        one(x, 2030, FAILS);
        one(x, 2310, FAILS);
        one(x, 2140, FAILS);
        x.split(5);
        one(x, 1130, OK);
        one(x, 2120, OK);
        one(x, 2130, FAILS);
        Check.due("rotation by 1", x.runScript(3, 2120_8030_8310L), OK);
    }

    private static void splits() {
        BlockLayout x = Check.loaded(FOUR);
        one(x, 3000, FAILS);
        one(x, 3001, OK);
        one(x, 3099, OK);
        one(x, 3101, FAILS);
        one(x, 3901, FAILS);
        Check.due("3 behind 1 after the split", x.runScript(3, 3005_8130_5039L), OK);
        Check.due("2 stays between", x.runScript(3, 3004_8130_5039L), 1);
    }

    private static void addresses() {
        BlockLayout x = Check.loaded(FOUR);
        one(x, 4000, OK);
        one(x, 4105, OK);
        one(x, 4104, FAILS);
        one(x, 4310, OK);
        one(x, 4400, FAILS);
        one(x, 4900, FAILS);
        x = Check.loaded("B8 00" + "92099199".repeat(8));
        Check.due("address of 7", x.address(7), 89);
        one(x, 4789, OK);
        one(x, 4788, FAILS);
    }

    private static void costsAndSizes() {
        BlockLayout x = Check.loaded(FOUR);
        one(x, 5043, OK);
        one(x, 5042, FAILS);
        one(x, 5143, FAILS);
        one(x, 6018, OK);
        one(x, 6019, FAILS);
        one(x, 6118, FAILS);
        x = Check.loaded("B8 00" + "92099199".repeat(8));
        Check.due("cost of four digits", x.cost(), 297 + 7 * 495);
        one(x, 5762, FAILS);
        Check.due("code size of three digits", x.codeSize(), 102);
        one(x, 6102, OK);
        one(x, 6002, FAILS);
    }

    private static void bypasses() {
        BlockLayout x = Check.loaded("B4 00 02120210 01305 01105 20");
        one(x, 7000, FAILS);
        one(x, 7100, OK);
        one(x, 7110, FAILS);
        one(x, 7101, FAILS);
        one(x, 7300, FAILS);
        one(x, 7400, FAILS);
        Check.due("bypassed twice", x.runScript(2, 7100_7100L), OK);
        // 0 falls to 1 and branches to 2 (30), 1 jumps to 3 (10), 2 jumps to 1 (10).
        Check.due("cost before", x.runScript(1, 5050), OK);
        // 0 branches to 3 (60) and jumps to 2 (20), 2 falls to 3.
        Check.due("cost after", x.runScript(2, 7100_5080L), OK);
    }

    private static void followers() {
        BlockLayout x = Check.loaded(FOUR);
        one(x, 8010, OK);
        one(x, 8011, FAILS);
        one(x, 8120, OK);
        one(x, 8230, OK);
        one(x, 8100, FAILS);
        one(x, 8020, FAILS);
        one(x, 8340, FAILS);
        one(x, 8430, FAILS);
        one(x, 8000, FAILS);
        one(x, 8890, FAILS);
        x.split(5);
        one(x, 8130, OK);
        one(x, 8320, FAILS);
    }

    private static void otherGroupsFail() {
        BlockLayout x = null;
        for (int group = 0; group < 10000; group++) {
            if (group % 500 == 0) {
                x = new BlockLayout();
            }
            boolean isGood = group == 4000 || group == 5000 || group == 6000
                || (group > 3000 && group < 3100);
            one(x, group, isGood ? OK : FAILS);
        }
    }

    private static void firstCommandIsTheHighest() {
        BlockLayout x = Check.loaded(FOUR);
        Check.due("all four", x.runScript(4, 5043_6018_4000_8010L), OK);
        Check.due("first", x.runScript(4, 5042_6018_4000_8010L), 0);
        Check.due("second", x.runScript(4, 5043_6017_4000_8010L), 1);
        Check.due("third", x.runScript(4, 5043_6018_4001_8010L), 2);
        Check.due("fourth", x.runScript(4, 5043_6018_4000_8020L), 3);
        Check.due("second and fourth", x.runScript(4, 5043_6017_4000_8020L), 1);
        Check.due("two of them", x.runScript(2, 5043_6018L), OK);
        Check.due("three of them", x.runScript(3, 5043_6018_4000L), OK);
        Check.due("leading zeros are a group that fails", x.runScript(2, 5043L), 0);
        Check.due("leading zeros in the first group", x.runScript(2, 43_6018L), 0);
    }

    private static void commandsSeeTheChanges() {
        BlockLayout x = Check.loaded(FOUR);
        Check.due("swapped", x.runScript(4, 1120_8020_8210_5045L), OK);
        Check.due("swapped back", x.runScript(3, 1120_1120_5043L), OK);
        Check.due("split and then refused", x.runScript(2, 3005_2130L), 1);
        Check.due("aligned", x.setAlignment(8), 1);
        Check.due("in the copy too", x.runScript(2, 4316_6024L), OK);
        Check.due("cold address", x.runScript(2, 3005_4216L), OK);
    }

    private static void nothingChanges() {
        BlockLayout x = Check.loaded("B4 00 02120210 01305 01105 20");
        x.swap(1, 2);
        x.save(0);
        String before = Check.portrait(x);
        x.runScript(4, 1130_2120_3010_7100L);
        x.runScript(3, 7100_1120_9999L);
        Check.due("state", Check.portrait(x), before);
        Check.due("no action", x.undo(), 0);
        x.restore(0);
        Check.due("save slot", Check.portrait(x), before);
    }
}
