import java.util.Random;

/**
 * Runs of some 510 calls with drawn arguments, on the class and on the model at once. The seeds are
 * fixed, so that every run of this test is the same; more runs: java ModelRunsTest x 5000.
 */
public final class ModelRunsTest {
    private static final int[] FAR = {Integer.MIN_VALUE, -100, -2, 8, 9, 100, 256, Integer.MAX_VALUE};
    /** The longest group of calls that is not cut off goes on for four more: 512 is the limit. */
    private static final int CALLS = 508;

    private final Random random;
    private final BlockLayout x = new BlockLayout();
    private final Model model = new Model();
    private final String name;
    private int calls = 0;

    private ModelRunsTest(int seed) {
        random = new Random(seed);
        name = "run " + seed;
    }

    public static void main(String[] args) {
        int runs = args.length > 1 ? Integer.parseInt(args[1]) : 150;
        for (int seed = 0; seed < runs; seed++) {
            new ModelRunsTest(seed).run();
        }
        Check.end();
    }

    private void run() {
        boolean typesFirst = random.nextInt(8) != 0;
        if (typesFirst) {
            typeSetup();
            due("load", x.load(), model.load());
        }
        while (calls < CALLS) {
            int kind = random.nextInt(100);
            if (kind < 45) {
                act();
            } else if (kind < 90) {
                ask();
            } else if (kind < 96) {
                runScript();
            } else if (kind < 99) {
                useSlots();
            } else {
                useText();
            }
        }
    }

    private void due(String call, int got, int want) {
        calls++;
        Check.due(name + " call " + calls + " " + call, got, want);
    }

    // ---- arguments

    private int index() {
        if (random.nextInt(25) == 0) {
            return FAR[random.nextInt(FAR.length)];
        }
        return random.nextInt(model.blockCount() + 2) - (random.nextInt(10) == 0 ? 1 : 0);
    }

    private int slot() {
        return random.nextInt(15) == 0 ? FAR[random.nextInt(FAR.length)] : random.nextInt(3);
    }

    private int amount() {
        int[] edges = {-1, 0, 1, 98, 99, 100};
        return random.nextInt(4) == 0 ? edges[random.nextInt(edges.length)] : random.nextInt(40);
    }

    private int count(int sort) {
        return sort == 0 ? 0 : sort == 1 ? random.nextInt(4) : sort == 2 ? 90 + random.nextInt(10) : random.nextInt(100);
    }

    private String drawnSetup() {
        int n = random.nextInt(3) == 0 ? 8 : 1 + random.nextInt(8);
        int sort = random.nextInt(5);
        StringBuilder text = new StringBuilder("B").append(n).append(String.format("%02d", count(sort)));
        for (int b = 0; b < n; b++) {
            int successors = random.nextInt(n == 1 ? 2 : 3);
            text.append(random.nextInt(2) == 0 ? 0 : random.nextInt(10)).append(successors);
            int first = random.nextInt(n);
            int second = (first + 1 + random.nextInt(Math.max(1, n - 1))) % n;
            for (int k = 0; k < successors; k++) {
                text.append(k == 0 ? first : second).append(String.format("%02d", count(sort)));
            }
        }
        return text.toString();
    }

    // ---- calls

    private void type(String text) {
        for (int i = 0; i < text.length() && calls < CALLS; i++) {
            int c = text.charAt(i);
            due("append " + c, x.append(c), model.append(c));
        }
    }

    private void typeSetup() {
        due("clearText", x.clearText(), model.clearText());
        String text = drawnSetup();
        if (random.nextInt(6) == 0) {
            int at = random.nextInt(text.length());
            char sign = "0123456789B/: b".charAt(random.nextInt(15));
            text = text.substring(0, at) + sign + text.substring(at + random.nextInt(2));
        }
        type(text);
        due("errorPosition", x.errorPosition(), model.errorPosition());
    }

    private void useText() {
        int kind = random.nextInt(6);
        if (kind == 0) {
            typeSetup();
        } else if (kind == 1) {
            int c = random.nextInt(300) - 20;
            due("append " + c, x.append(c), model.append(c));
        } else if (kind == 2) {
            due("clearText", x.clearText(), model.clearText());
        } else {
            due("errorPosition", x.errorPosition(), model.errorPosition());
        }
        if (random.nextInt(2) == 0) {
            due("load", x.load(), model.load());
        }
    }

    private void act() {
        int i = index();
        int j = index();
        switch (random.nextInt(12)) {
            case 0 -> due("orderByChains", x.orderByChains(), model.orderByChains());
            case 1 -> actOptimally();
            case 2, 3 -> due("swap " + i + " " + j, x.swap(i, j), model.swap(i, j));
            case 4, 5 -> due("rotate " + i + " " + j, x.rotate(i, j), model.rotate(i, j));
            case 6 -> actSplit();
            case 7 -> due("bypass " + i, x.bypass(i), model.bypass(i));
            case 8, 9 -> actCount(i);
            case 10 -> actAlign();
            default -> due("undo", x.undo(), model.undo());
        }
    }

    /** The model needs long for eight hot blocks, so this is drawn less often than the others. */
    private void actOptimally() {
        if (model.hotCount() < 7 || random.nextInt(6) == 0) {
            due("optimalCost", x.optimalCost(), model.optimalCost());
            due("orderOptimally", x.orderOptimally(), model.orderOptimally());
        }
    }

    private void actSplit() {
        int threshold = amount();
        due("split " + threshold, x.split(threshold), model.split(threshold));
    }

    private void actCount(int b) {
        int k = slot();
        int c = amount();
        due("setCount " + b + " " + k + " " + c, x.setCount(b, k, c), model.setCount(b, k, c));
    }

    private void actAlign() {
        int a = random.nextInt(3) == 0 ? random.nextInt(40) - 5 : 1 << random.nextInt(6);
        due("setAlignment " + a, x.setAlignment(a), model.setAlignment(a));
    }

    private void ask() {
        int b = index();
        int k = slot();
        switch (random.nextInt(16)) {
            case 0 -> due("blockCount", x.blockCount(), model.blockCount());
            case 1 -> due("size " + b, x.size(b), model.size(b));
            case 2 -> due("successor " + b + " " + k, x.successor(b, k), model.successor(b, k));
            case 3 -> due("edgeCount " + b + " " + k, x.edgeCount(b, k), model.edgeCount(b, k));
            case 4 -> due("executions " + b, x.executions(b), model.executions(b));
            case 5 -> due("blockAt " + b, x.blockAt(b), model.blockAt(b));
            case 6 -> due("hotCount", x.hotCount(), model.hotCount());
            case 7 -> due("cost", x.cost(), model.cost());
            case 8 -> due("codeSize", x.codeSize(), model.codeSize());
            case 9, 10 -> due("address " + b, x.address(b), model.address(b));
            case 11 -> due("branchBytes " + b, x.branchBytes(b), model.branchBytes(b));
            case 12 -> due("edgeCost " + b + " " + k, x.edgeCost(b, k), model.edgeCost(b, k));
            case 13 -> due("chainHead " + b, x.chainHead(b), model.chainHead(b));
            case 14 -> askRotation(b);
            default -> askExecution();
        }
    }

    private void askRotation(int first) {
        int last = index();
        due("bestRotation " + first + " " + last, x.bestRotation(first, last), model.bestRotation(first, last));
    }

    private void askExecution() {
        long seed = random.nextInt(4) == 0 ? random.nextInt(10) : random.nextLong();
        int m = random.nextInt(4) == 0 ? amount() : 1 + random.nextInt(99);
        due("execute " + seed + " " + m, x.execute(seed, m), model.execute(seed, m));
    }

    private int group() {
        int i = random.nextInt(model.blockCount() + 1);
        int j = random.nextInt(model.blockCount() + 1);
        int last = random.nextInt(12) == 0 ? 1 : 0;
        return switch (random.nextInt(10)) {
            case 0 -> 1000 + 100 * i + 10 * j + last;
            case 1 -> 2000 + 100 * i + 10 * j + last;
            case 2 -> 3000 + 100 * last + random.nextInt(100);
            case 3 -> 4000 + 100 * i + Math.floorMod(model.address(i), 100);
            case 4 -> 5000 + model.cost() % 1000;
            case 5 -> 6000 + model.codeSize() % 1000;
            case 6 -> 7000 + 100 * i + last;
            case 7 -> 8000 + 100 * i + 10 * j + last;
            case 8 -> 8000 + 100 * model.blockAt(0) + 10 * Math.max(0, model.blockAt(1));
            default -> random.nextInt(10000);
        };
    }

    private void runScript() {
        int n = random.nextInt(15) == 0 ? random.nextInt(8) - 1 : 1 + random.nextInt(4);
        long script = 0;
        for (int i = 0; i < n; i++) {
            script = script * 10000 + group();
        }
        if (random.nextInt(20) == 0) {
            script = random.nextLong();
        }
        due("runScript " + n + " " + script, x.runScript(n, script), model.runScript(n, script));
    }

    private void useSlots() {
        int slot = random.nextInt(8) == 0 ? index() : random.nextInt(2);
        if (random.nextBoolean()) {
            due("save " + slot, x.save(slot), model.save(slot));
        } else {
            due("restore " + slot, x.restore(slot), model.restore(slot));
        }
    }
}
