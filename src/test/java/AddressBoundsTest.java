/** The edges of promises 14, 15 and 28 and of the section ADDRESSES. */
public final class AddressBoundsTest {
    private static final int[] ALIGNMENTS = {1, 2, 4, 8, 16};

    public static void main(String[] args) {
        alignments();
        alignmentOfANewObject();
        alignmentAfterALoad();
        loopHeadsAreAligned();
        otherBlocksAreNot();
        sourceOfALoopHead();
        sourceInSlot1();
        ownSuccessor();
        coldSource();
        coldTarget();
        block0HasAddress0();
        coldSectionStart();
        coldBlocksBehindOneAnother();
        bytesOfBranchesCount();
        codeSizes();
        Check.end();
    }

    /** The document's words, step by step. */
    private static int smallestMultiple(int unit, int end) {
        int multiple = 0;
        while (multiple < end) {
            multiple += unit;
        }
        return multiple;
    }

    private static void alignments() {
        Check.sentence("setAlignment: BAD_VALUE if a is none of 1, 2, 4, 8 or 16");
        for (int a = -33; a <= 65; a++) {
            int tried = a;
            if (a == 1 || a == 2 || a == 4 || a == 8 || a == 16) {
                BlockLayout x = new BlockLayout();
                Check.due("setAlignment " + a, x.setAlignment(a), 1);
                Check.due("setAlignment after " + a, x.setAlignment(1), a);
                Check.due("both are actions", x.undo(), 1);
            } else {
                Twins.unchanged("setAlignment " + a, Twins.RICH, x -> x.setAlignment(tried), BlockLayout.BAD_VALUE);
                Twins.unchanged("setAlignment " + a, Twins.NEW, x -> x.setAlignment(tried), BlockLayout.BAD_VALUE);
            }
        }
        int[] far = {Integer.MIN_VALUE, Integer.MIN_VALUE + 1, -256, 128, 256, 257, 1 << 16, 1 << 30, Integer.MAX_VALUE};
        for (int a : far) {
            Twins.unchanged("setAlignment " + a, Twins.RICH, x -> x.setAlignment(a), BlockLayout.BAD_VALUE);
        }
    }

    private static void alignmentOfANewObject() {
        Check.sentence("the alignment is 1 in a new object");
        Check.due("setAlignment", new BlockLayout().setAlignment(1), 1);
        Check.due("setAlignment", new BlockLayout().setAlignment(16), 1);
    }

    private static void alignmentAfterALoad() {
        Check.sentence("the alignment is 1 after a setup is loaded");
        for (int a : ALIGNMENTS) {
            BlockLayout x = Check.loaded("B2 00 30 01100");
            x.setAlignment(a);
            Check.due("address with " + a, x.address(1), smallestMultiple(a, 3));
            x.load();
            Check.due("address after load", x.address(1), 3);
            Check.due("setAlignment after load", x.setAlignment(a), 1);
        }
    }

    private static void loopHeadsAreAligned() {
        Check.sentence("at the smallest multiple of the alignment that is not less than the end of the block before it");
        for (int end = 0; end <= 18; end++) {
            int first = Math.min(9, end);
            BlockLayout x = Check.loaded("B3 00 " + first + "0 " + (end - first) + "0 51200");
            for (int a : ALIGNMENTS) {
                x.setAlignment(a);
                int start = smallestMultiple(a, end);
                Check.due("address behind " + end + " with " + a, x.address(2), start);
                Check.due("codeSize behind " + end + " with " + a, x.codeSize(), start + 7);
            }
        }
    }

    private static void otherBlocksAreNot() {
        Check.sentence("every other block is placed directly at the end of the block before it");
        for (int end = 0; end <= 18; end++) {
            int first = Math.min(9, end);
            BlockLayout x = Check.loaded("B3 00 " + first + "0 " + (end - first) + "0 50");
            for (int a : ALIGNMENTS) {
                x.setAlignment(a);
                Check.due("address of 1 behind " + first + " with " + a, x.address(1), first);
                Check.due("address of 2 behind " + end + " with " + a, x.address(2), end);
                Check.due("codeSize behind " + end + " with " + a, x.codeSize(), end + 5);
            }
        }
    }

    private static void sourceOfALoopHead() {
        Check.sentence("a successor of some block of the hot section that has the same or a later position");
        for (int source = 0; source < 5; source++) {
            StringBuilder text = new StringBuilder("B5 00");
            for (int b = 0; b < 5; b++) {
                text.append(b == source ? "11200" : "10");
            }
            BlockLayout x = Check.loaded(text.toString());
            x.setAlignment(16);
            int end = source == 0 ? 4 : 2;
            Check.due("block 2 with source " + source, x.address(2), source >= 2 ? 16 : end);
        }
        Check.sentence("by positions, not by numbers");
        BlockLayout x = Check.loaded("B3 00 10 10 11100");
        x.setAlignment(8);
        Check.due("source behind", Check.addresses(x), "0 8 9 12");
        x.swap(1, 2);
        Check.due("source before", Check.addresses(x), "0 2 1 3");
        x = Check.loaded("B3 00 10 11200 10");
        x.setAlignment(8);
        Check.due("source before", Check.addresses(x), "0 1 2 3");
        x.swap(1, 2);
        Check.due("source behind", Check.addresses(x), "0 9 8 12");
    }

    private static void sourceInSlot1() {
        Check.sentence("a successor in either slot, whatever the count");
        BlockLayout x = Check.loaded("B3 00 10 10 12000100");
        x.setAlignment(4);
        Check.due("slot 1", x.address(1), 4);
        x = Check.loaded("B3 00 10 10 12100000");
        x.setAlignment(4);
        Check.due("slot 0", x.address(1), 4);
        x.setCount(2, 0, 99);
        Check.due("count 99", x.address(1), 4);
    }

    private static void ownSuccessor() {
        Check.sentence("a hot block that is its own successor is a loop head");
        BlockLayout x = Check.loaded("B3 00 10 11100 10");
        x.setAlignment(16);
        Check.due("in slot 0", Check.addresses(x), "0 16 19 20");
        x = Check.loaded("B3 00 10 12200100 10");
        x.setAlignment(16);
        Check.due("in slot 1", Check.addresses(x), "0 16 19 20");
    }

    private static void coldSource() {
        Check.sentence("a successor of some block of the hot section");
        BlockLayout x = Check.loaded("B3 00 11105 10 11100");
        x.setAlignment(8);
        Check.due("hot source", Check.addresses(x), "0 8 9 12");
        x.split(1);
        Check.due("order", Check.order(x), "01|2");
        Check.due("cold source", Check.addresses(x), "0 1 16 19");
    }

    private static void coldTarget() {
        Check.sentence("a block of the hot section is a loop head if ..");
        // Cold are 2 and 3; both are led to from 3, and 2 from the hot block 1 too.
        BlockLayout x = Check.loaded("B4 00 11105 11200 50 12200300");
        x.setAlignment(16);
        Check.due("split", x.split(1), 2);
        Check.due("order", Check.order(x), "01|23");
        Check.due("no cold block is aligned", Check.addresses(x), "0 1 16 21 26");
    }

    private static void block0HasAddress0() {
        Check.sentence("the first one, block 0, has address 0");
        for (int a : ALIGNMENTS) {
            BlockLayout x = Check.loaded("B2 00 92000100 91000");
            x.setAlignment(a);
            Check.due("address 0 with " + a, x.address(0), 0);
            x.split(1);
            Check.due("address 0 alone with " + a, x.address(0), 0);
        }
    }

    private static void coldSectionStart() {
        Check.sentence("at the smallest multiple of 16 that is not less than the end of the last hot block");
        for (int end = 0; end <= 18; end++) {
            int first = Math.min(9, end);
            BlockLayout x = Check.loaded("B4 00 " + first + "1101 " + (end - first) + "0 30 21300");
            x.split(1);
            Check.due("order", Check.order(x), "01|23");
            for (int a : ALIGNMENTS) {
                x.setAlignment(a);
                int start = end == 0 ? 0 : end <= 16 ? 16 : 32;
                Check.due("cold start behind " + end + " with " + a, x.address(2), start);
                Check.due("next cold block", x.address(3), start + 3);
                Check.due("codeSize", x.codeSize(), start + 3 + 4);
            }
        }
    }

    private static void coldBlocksBehindOneAnother() {
        Check.sentence("the other cold blocks are placed directly one behind the other");
        BlockLayout x = Check.loaded("B8 00" + "30".repeat(8));
        x.setAlignment(16);
        x.split(1);
        Check.due("order", Check.order(x), "0|1234567");
        Check.due("addresses", Check.addresses(x), "0 16 19 22 25 28 31 34 37");
    }

    private static void bytesOfBranchesCount() {
        Check.sentence("the end of a block is its address plus its size plus the bytes of its branches");
        Check.due("no branch", Check.addresses(Check.loaded("B2 00 31105 00")), "0 3 3");
        Check.due("jump", Check.addresses(Check.loaded("B2 00 31005 00")), "0 5 5");
        Check.due("conditional", Check.addresses(Check.loaded("B2 00 32005105 00")), "0 5 5");
        Check.due("both", Check.addresses(Check.loaded("B3 00 32005205 00 00")), "0 7 7 7");
        Check.due("size 0 and both", Check.addresses(Check.loaded("B3 00 02005205 00 00")), "0 4 4 4");
    }

    private static void codeSizes() {
        Check.sentence("the code size is the end of the last block of the layout");
        Check.due("new object", new BlockLayout().codeSize(), 0);
        Check.due("one byte", Check.loaded("B1 00 10").codeSize(), 1);
        Check.due("a branch of the last block", Check.loaded("B1 00 11000").codeSize(), 3);
        BlockLayout x = Check.loaded("B2 00 10 00");
        Check.due("an empty last block", x.codeSize(), 1);
        x.split(1);
        Check.due("an empty cold block has a place too", x.codeSize(), 16);
        // Every block is a loop head, ends with both branches, and takes 13 bytes.
        x = Check.loaded("B8 00 92000200" + "92100000" + "92200000" + "92300000" + "92400000" + "92500000"
            + "92600000" + "92700000");
        x.setAlignment(16);
        Check.due("greatest hot", Check.addresses(x), "0 16 32 48 64 80 96 112 125");
        x.setAlignment(8);
        Check.due("with 8", x.codeSize(), 125);
        x.setAlignment(4);
        Check.due("with 4", x.codeSize(), 125);
        x.setAlignment(2);
        Check.due("with 2", x.codeSize(), 14 * 7 + 13);
        x.setAlignment(1);
        Check.due("with 1", x.codeSize(), 13 * 8);
    }
}
