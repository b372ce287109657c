/** What the tests share: counting wrong answers, and making objects from setup texts. */
final class Check {
    private static int asked = 0;
    private static int wrong = 0;
    private static String sentence = "";

    private Check() {
    }

    /** What the document says, in its words or in short, of the answers from here on; a wrong one tells it. */
    static void sentence(String words) {
        sentence = " (" + words + ")";
    }

    static void due(String what, long got, long want) {
        due(what, Long.toString(got), Long.toString(want));
    }

    static void due(String what, String got, String want) {
        asked++;
        if (!got.equals(want)) {
            wrong++;
            System.out.println(what + " answered " + got + ", due is " + want + sentence);
        }
    }

    static void isTrue(String what, boolean holds) {
        due(what, holds ? 1 : 0, 1);
    }

    /** Ends the program; a test that asked nothing has failed. */
    static void end() {
        System.out.println(asked + " answers, " + wrong + " of them wrong");
        System.exit(wrong == 0 && asked > 0 ? 0 : 1);
    }

    static void type(BlockLayout x, String text) {
        for (int i = 0; i < text.length(); i++) {
            x.append(text.charAt(i));
        }
    }

    /** Spaces in the text are for the reader alone. */
    static BlockLayout loaded(String setup) {
        BlockLayout x = new BlockLayout();
        reload(x, setup);
        return x;
    }

    static void reload(BlockLayout x, String setup) {
        x.clearText();
        type(x, setup.replace(" ", ""));
        isTrue("load of " + setup, x.load() > 0);
    }

    static String order(BlockLayout x) {
        StringBuilder blocks = new StringBuilder();
        int n = x.blockCount();
        int hot = x.hotCount();
        for (int i = 0; i < n; i++) {
            blocks.append(i == hot ? "|" : "").append(x.blockAt(i));
        }
        return blocks.toString();
    }

    static String addresses(BlockLayout x) {
        StringBuilder all = new StringBuilder();
        int n = x.blockCount();
        for (int b = 0; b < n; b++) {
            all.append(x.address(b)).append(' ');
        }
        return all.append(x.codeSize()).toString();
    }

    /** All that queries tell of the function and the layout, in one text: 6 + 8 * n calls. */
    static String portrait(BlockLayout x) {
        StringBuilder all = new StringBuilder(order(x)).append(" cost ").append(x.cost());
        all.append(" addresses ").append(addresses(x));
        int n = x.blockCount();
        for (int b = 0; b < n; b++) {
            all.append(" / ").append(x.size(b)).append(' ').append(x.executions(b));
            for (int k = 0; k < 2; k++) {
                all.append(' ').append(x.successor(b, k)).append(':').append(x.edgeCount(b, k));
            }
        }
        return all.toString();
    }
}
