/** The edges of promise 31 and of the section RANDOM EXECUTION. */
public final class ExecuteBoundsTest {
    /** Seeds, and for each of them the first v, worked out apart from the class. */
    private static final long[] SEEDS = {0, 1, -1, 42, Long.MAX_VALUE, Long.MIN_VALUE, -4611686018427387904L,
        -7379792620528906219L, -2810872687533676688L, 1843579416325869589L, 6412499349321099120L,
        4483922187169113968L, -84997745826115563L, -4618118899625144299L, 6533830299381616661L};
    private static final int[] FIRST = {167951807, 908834774, 1574552488, 1220265334, 500810664, 1241693631,
        1778564543, 0, 2147483647, 1073741824, 1073741823, 0, 1, 99, 98};

    public static void main(String[] args) {
        numbersOfSteps();
        anySeed();
        stepsOfOneSuccessor();
        oneSuccessorLeft();
        stepsWithoutSuccessors();
        slotsAtTheCount();
        countsOf0();
        greatestCounts();
        everyStepReplacesX();
        beginsAtBlock0();
        costsOfTheLayout();
        Check.end();
    }

    private static void numbersOfSteps() {
        Check.sentence("m: number of steps, 1 to 99; BAD_VALUE if m is out of range");
        int[] bad = {Integer.MIN_VALUE, -99, -1, 0, 100, 101, 257, Integer.MAX_VALUE};
        for (int m : bad) {
            Twins.unchanged("execute " + m, Twins.RICH, x -> x.execute(7, m), BlockLayout.BAD_VALUE);
            Twins.unchanged("execute " + m, Twins.NEW, x -> x.execute(7, m), BlockLayout.BAD_VALUE);
        }
        BlockLayout x = Check.loaded("B1 00 01005");
        for (int m = 1; m <= 99; m++) {
            Check.due("execute " + m, x.execute(7, m), 2 * m);
        }
        Twins.unchanged("1 step", Twins.of("B1 00 01005"), y -> y.execute(7, 1), 2);
        Twins.unchanged("99 steps", Twins.of("B1 00 01005"), y -> y.execute(7, 99), 198);
    }

    private static void anySeed() {
        Check.sentence("seed: any long");
        for (long seed : SEEDS) {
            BlockLayout x = Check.loaded("B2 00 02130020 02130020");
            for (int m = 1; m <= 99; m++) {
                int result = x.execute(seed, m);
                Check.isTrue("execute " + seed + " " + m + " is " + result, result >= 0 && result <= 3 * m);
            }
            Check.due("of a new object", new BlockLayout().execute(seed, 99), 0);
        }
    }

    private static void stepsOfOneSuccessor() {
        Check.sentence("if it has one successor, the step follows that edge, whatever v is");
        for (long seed : SEEDS) {
            BlockLayout x = Check.loaded("B3 00 01200 01000 01100");
            // 0 jumps to 2, 2 jumps to 1, 1 jumps to 0: counts of 0 do not matter.
            Check.due("1 step", x.execute(seed, 1), 2);
            Check.due("99 steps", x.execute(seed, 99), 198);
            x.swap(1, 2);
            Check.due("2 steps fall through", x.execute(seed, 2), 0);
            Check.due("3 steps", x.execute(seed, 3), 2);
            Check.due("99 steps in 0 2 1", x.execute(seed, 99), 66);
        }
    }

    private static void oneSuccessorLeft() {
        Check.sentence("if it has one successor, the step follows that edge: a slot that is gone is not followed");
        for (long seed : SEEDS) {
            // Both edges of 0 lead to 0 after the bypass, and it jumps.
            BlockLayout x = Check.loaded("B3 00 02001199 01005 00");
            x.bypass(1);
            Check.due("after a bypass", x.execute(seed, 99), 198);
            x = Check.loaded("B3 00 02101299 00 00");
            Check.reload(x, "B3 00 01101 00 00");
            Check.due("after a load", x.execute(seed, 99), 0);
            Check.reload(x, "B3 00 00 00 00");
            Check.due("after a load without edges", x.execute(seed, 99), 0);
        }
    }

    private static void stepsWithoutSuccessors() {
        Check.sentence("if the present block has no successors, the step goes to block 0 without cost");
        BlockLayout x = Check.loaded("B4 00 01305 00 00 01105");
        // 0 jumps to 3, 3 jumps to 1, and the third step goes back.
        int[] results = {2, 4, 4, 6, 8, 8, 10};
        for (int m = 1; m <= 7; m++) {
            Check.due(m + " steps", x.execute(5, m), results[m - 1]);
        }
        Check.due("99 steps", x.execute(5, 99), 33 * 4);
        Check.due("98 steps", x.execute(5, 98), 33 * 4);
        Check.due("97 steps", x.execute(5, 97), 32 * 4 + 2);
        Check.due("block 0 without successors", Check.loaded("B2 00 00 01005").execute(5, 99), 0);
    }

    /** Slot 0 falls through for 0, slot 1 branches back to block 0 for 3. */
    private static BlockLayout fork(int count0, int count1) {
        BlockLayout x = Check.loaded("B2 00 02100000 00");
        x.setCount(0, 0, count0);
        x.setCount(0, 1, count1);
        return x;
    }

    private static void slotsAtTheCount() {
        Check.sentence("the step follows slot 0 if v % t is less than c, otherwise slot 1");
        int[] sums = {1, 2, 3, 50, 98, 99};
        for (int i = 0; i < SEEDS.length; i++) {
            for (int t : sums) {
                int rest = FIRST[i] % t;
                String what = "seed " + SEEDS[i] + ", rest " + rest + " of " + t + ", c ";
                Check.due(what + rest, fork(rest, t - rest).execute(SEEDS[i], 1), 3);
                Check.due(what + (rest + 1), fork(rest + 1, t - rest - 1).execute(SEEDS[i], 1), 0);
            }
        }
    }

    private static void countsOf0() {
        Check.sentence("the step follows slot 0 if t is 0");
        for (long seed : SEEDS) {
            Check.due("both 0", fork(0, 0).execute(seed, 1), 0);
            Check.due("slot 1 alone", fork(0, 1).execute(seed, 1), 3);
            Check.due("slot 0 alone", fork(1, 0).execute(seed, 1), 0);
            Check.due("slot 1 alone, 99 steps", fork(0, 99).execute(seed, 99), 297);
            Check.due("slot 0 alone, 99 steps", fork(99, 0).execute(seed, 99), 0);
            BlockLayout x = Check.loaded("B2 00 02000100 00");
            Check.due("both 0, 99 steps", x.execute(seed, 99), 297);
        }
    }

    private static void greatestCounts() {
        Check.sentence("t the sum of both counts");
        for (int i = 0; i < SEEDS.length; i++) {
            int rest = FIRST[i] % 198;
            Check.due("99 and 99, rest " + rest, fork(99, 99).execute(SEEDS[i], 1), rest < 99 ? 0 : 3);
            int other = FIRST[i] % 197;
            Check.due("98 and 99, rest " + other, fork(98, 99).execute(SEEDS[i], 1), other < 98 ? 0 : 3);
        }
    }

    private static void everyStepReplacesX() {
        Check.sentence("each step first replaces x");
        // The v of seed 0 are 167951807, 218396424, 1299921937 and 861605236; modulo 99 they are
        // 89, 48, 61 and 19. Slot 1 stays at block 0 for 3, slot 0 goes to block 1 and back for 0.
        Check.due("slot 1 twice", fork(48, 51).execute(0, 2), 6);
        Check.due("slot 1, slot 0", fork(49, 50).execute(0, 2), 3);
        Check.due("slot 1, slot 0, back", fork(49, 50).execute(0, 3), 3);
        Check.due("slot 1, slot 0, back, slot 0", fork(49, 50).execute(0, 4), 3);
        Check.due("slot 1 three times", fork(48, 51).execute(0, 3), 9);
        Check.due("and slot 0 by 19", fork(20, 79).execute(0, 4), 9);
        Check.due("and slot 1 by 19", fork(19, 80).execute(0, 4), 12);
        Check.sentence("a step back to block 0 and a step of one successor replace x too");
        // Slot 0 by 89, back by 48, and then 61 decides.
        Check.due("the third v, less", fork(90, 9).execute(0, 3), 0);
        BlockLayout x = Check.loaded("B3 00 02190009 01200 00");
        // Slot 0 by 89, one successor by 48, back by 61, and then 19 is slot 0 again.
        Check.due("four steps", x.execute(0, 4), 0);
        // The v of seed 42 modulo 99 are 46, 23, 25 and 42.
        Check.due("slot 0 by 46, back, slot 0 by 25", fork(47, 52).execute(42, 3), 0);
        Check.due("slot 1 by 46, slot 0 by 23", fork(46, 53).execute(42, 2), 3);
        Check.due("slot 1 by 46, 23, 25 and 42", fork(23, 76).execute(42, 4), 12);
        Check.due("slot 1 by 46, slot 0 by 23, back, slot 1 by 42", fork(24, 75).execute(42, 4), 6);
        // The v of seed -1 modulo 99 are 58, 5, 73 and 89.
        Check.due("slot 0 by 58, back, slot 1 by 73", fork(59, 40).execute(-1, 3), 3);
        Check.due("slot 0 by 58, back, slot 0 by 73", fork(74, 25).execute(-1, 3), 0);
    }

    private static void beginsAtBlock0() {
        Check.sentence("follows edges, beginning at block 0");
        BlockLayout x = Check.loaded("B3 00 01205 01005 00");
        Check.due("first call", x.execute(9, 1), 2);
        Check.due("second call begins anew", x.execute(9, 1), 2);
        x.swap(1, 2);
        Check.due("in another layout", x.execute(9, 1), 0);
    }

    private static void costsOfTheLayout() {
        Check.sentence("the sum of the costs of one execution of each edge that was followed");
        BlockLayout x = Check.loaded("B4 00 02299301 00 01000 01000");
        // 0 branches to 2 for 3 or jumps to 3 for 2; 2 and 3 jump back.
        Check.due("conditional", x.execute(-7379792620528906219L, 1), 3);
        x.setCount(0, 0, 0);
        Check.due("the only count is the greater one", x.execute(-7379792620528906219L, 1), 3);
        x.setCount(0, 0, 1);
        x.setCount(0, 1, 99);
        Check.due("slot 0 by v 0, as a jump", x.execute(-7379792620528906219L, 1), 2);
        Check.due("slot 1 by v 1, as a conditional branch", x.execute(-84997745826115563L, 1), 3);
        x.split(1);
        Check.due("order", Check.order(x), "023|1");
        Check.due("2 follows", x.execute(-7379792620528906219L, 1), 0);
        x.split(99);
        Check.due("order", Check.order(x), "03|21");
        Check.due("over the border", x.execute(-7379792620528906219L, 1), 3);
        Check.due("and back", x.execute(-7379792620528906219L, 2), 5);
    }
}
