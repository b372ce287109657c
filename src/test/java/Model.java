import java.util.ArrayDeque;
import java.util.ArrayList;
import java.util.Comparator;
import java.util.Deque;
import java.util.List;

/**
 * The document once more, word for word and without regard to speed: every candidate layout is made
 * and measured. It shares no line with the class, so that a slip in one of them shows.
 */
final class Model {
    private record Edge(int to, int count) {
    }

    private record Numbered(int from, int slot, int to, int count) {
    }

    /** Never changed; each action makes a new one. */
    private record State(List<List<Edge>> edges, List<Integer> order, int hot, int alignment) {
    }

    private String text = "";
    private List<Integer> sizes = List.of(0);
    private int entry = 0;
    private State state = new State(List.of(List.of()), List.of(0), 1, 1);
    private final Deque<State> past = new ArrayDeque<>();
    private final State[] slots = new State[2];

    // ---- setup text

    int append(int c) {
        if (c < 0 || c > 255) {
            return -2;
        }
        if (text.length() == 99) {
            return -4;
        }
        text += (char) c;
        return text.length();
    }

    int clearText() {
        int length = text.length();
        text = "";
        return length;
    }

    /** The signs that may come next behind the beginning of a setup; none behind a whole one. */
    private static String next(String start) {
        if (start.isEmpty()) {
            return "B";
        }
        if (start.length() == 1) {
            return "12345678";
        }
        String digits = "0123456789";
        if (start.length() < 4) {
            return digits;
        }
        int n = start.charAt(1) - '0';
        int at = 4;
        for (int b = 0; b < n; b++) {
            if (at == start.length()) {
                return digits;
            }
            if (at + 1 == start.length()) {
                return n == 1 ? "01" : "012";
            }
            int successors = start.charAt(at + 1) - '0';
            String blocks = digits.substring(0, n);
            for (int k = 0; k < successors; k++) {
                int edge = at + 2 + 3 * k;
                if (edge == start.length()) {
                    return k == 0 ? blocks : blocks.replace(start.substring(edge - 3, edge - 2), "");
                }
                if (edge + 3 > start.length()) {
                    return digits;
                }
            }
            at += 2 + 3 * successors;
        }
        return "";
    }

    int errorPosition() {
        for (int i = 0; i < text.length(); i++) {
            if (next(text.substring(0, i)).indexOf(text.charAt(i)) < 0) {
                return i;
            }
        }
        return next(text).isEmpty() ? -9 : text.length();
    }

    int load() {
        if (errorPosition() != -9) {
            return -3;
        }
        int n = Integer.parseInt(text.substring(1, 2));
        entry = Integer.parseInt(text.substring(2, 4));
        List<Integer> newSizes = new ArrayList<>();
        List<List<Edge>> edges = new ArrayList<>();
        List<Integer> order = new ArrayList<>();
        String rest = text.substring(4);
        for (int b = 0; b < n; b++) {
            newSizes.add(Integer.parseInt(rest.substring(0, 1)));
            int successors = Integer.parseInt(rest.substring(1, 2));
            rest = rest.substring(2);
            List<Edge> own = new ArrayList<>();
            for (int k = 0; k < successors; k++) {
                own.add(new Edge(Integer.parseInt(rest.substring(0, 1)), Integer.parseInt(rest.substring(1, 3))));
                rest = rest.substring(3);
            }
            edges.add(own);
            order.add(b);
        }
        sizes = newSizes;
        state = new State(edges, order, n, 1);
        past.clear();
        slots[0] = null;
        slots[1] = null;
        return n;
    }

    // ---- the function

    int blockCount() {
        return sizes.size();
    }

    private boolean isBlock(int b) {
        return 0 <= b && b < sizes.size();
    }

    private boolean isEdge(int b, int k) {
        return isBlock(b) && 0 <= k && k < state.edges.get(b).size();
    }

    int size(int b) {
        return isBlock(b) ? sizes.get(b) : -1;
    }

    int successor(int b, int k) {
        return isEdge(b, k) ? state.edges.get(b).get(k).to : -1;
    }

    int edgeCount(int b, int k) {
        return isEdge(b, k) ? state.edges.get(b).get(k).count : -1;
    }

    private List<Numbered> allEdges(State s) {
        List<Numbered> all = new ArrayList<>();
        for (int b = 0; b < s.edges.size(); b++) {
            for (int k = 0; k < s.edges.get(b).size(); k++) {
                Edge e = s.edges.get(b).get(k);
                all.add(new Numbered(b, k, e.to, e.count));
            }
        }
        return all;
    }

    int executions(int b) {
        return isBlock(b) ? executionsIn(state, b) : -1;
    }

    private int executionsIn(State s, int b) {
        return (b == 0 ? entry : 0)
            + allEdges(s).stream().filter(e -> e.to == b).mapToInt(Numbered::count).sum();
    }

    // ---- the layout

    int blockAt(int i) {
        return isBlock(i) ? state.order.get(i) : -1;
    }

    int hotCount() {
        return state.hot;
    }

    private static int follower(State s, int b) {
        int position = s.order.indexOf(b);
        int next = position + 1;
        boolean sameSection = next < s.order.size() && (position < s.hot) == (next < s.hot);
        return sameSection ? s.order.get(next) : -1;
    }

    private static int costOfEdge(State s, int b, int k) {
        List<Edge> own = s.edges.get(b);
        int follower = follower(s, b);
        if (own.get(k).to == follower) {
            return 0;
        }
        if (own.size() == 1) {
            return 2;
        }
        if (own.get(0).to == follower || own.get(1).to == follower) {
            return 3;
        }
        int conditional = own.get(0).count >= own.get(1).count ? 0 : 1;
        return k == conditional ? 3 : 2;
    }

    private int costOf(State s) {
        return allEdges(s).stream().mapToInt(e -> e.count * costOfEdge(s, e.from, e.slot)).sum();
    }

    int cost() {
        return costOf(state);
    }

    private static int bytes(State s, int b) {
        List<Edge> own = s.edges.get(b);
        int follower = follower(s, b);
        if (own.isEmpty()) {
            return 0;
        }
        if (own.size() == 1) {
            return own.get(0).to == follower ? 0 : 2;
        }
        return own.get(0).to == follower || own.get(1).to == follower ? 2 : 4;
    }

    private static boolean isLoopHead(State s, int b) {
        int position = s.order.indexOf(b);
        for (int other = 0; other < s.order.size(); other++) {
            int place = s.order.indexOf(other);
            boolean leads = s.edges.get(other).stream().anyMatch(e -> e.to == b);
            if (position < s.hot && place < s.hot && place >= position && leads) {
                return true;
            }
        }
        return false;
    }

    /** The address of each block, and the code size behind them. */
    private int[] addresses(State s) {
        int n = s.order.size();
        int[] result = new int[n + 1];
        int end = 0;
        for (int i = 0; i < n; i++) {
            int b = s.order.get(i);
            int unit = i == s.hot ? 16 : i < s.hot && isLoopHead(s, b) ? s.alignment : 1;
            while (end % unit != 0) {
                end++;
            }
            result[b] = end;
            end += sizes.get(b) + bytes(s, b);
        }
        result[n] = end;
        return result;
    }

    int codeSize() {
        return addresses(state)[sizes.size()];
    }

    int address(int b) {
        return isBlock(b) ? addresses(state)[b] : -1;
    }

    int branchBytes(int b) {
        return isBlock(b) ? bytes(state, b) : -1;
    }

    int edgeCost(int b, int k) {
        return isEdge(b, k) ? costOfEdge(state, b, k) : -1;
    }

    private List<List<Integer>> chains() {
        List<List<Integer>> chains = new ArrayList<>();
        for (int b = 0; b < sizes.size(); b++) {
            chains.add(new ArrayList<>(List.of(b)));
        }
        List<Numbered> edges = new ArrayList<>(allEdges(state));
        edges.removeIf(e -> e.count == 0);
        edges.sort(Comparator.comparing((Numbered e) -> -e.count).thenComparing(Numbered::from).thenComparing(Numbered::slot));
        for (Numbered e : edges) {
            List<Integer> front = null;
            List<Integer> back = null;
            for (List<Integer> chain : chains) {
                front = chain.get(chain.size() - 1) == e.from ? chain : front;
                back = chain.get(0) == e.to ? chain : back;
            }
            if (front != null && back != null && front != back && e.to != 0) {
                front.addAll(back);
                List<Integer> gone = back;
                chains.removeIf(chain -> chain == gone);
            }
        }
        return chains;
    }

    int chainHead(int b) {
        for (List<Integer> chain : chains()) {
            if (chain.contains(b)) {
                return chain.get(0);
            }
        }
        return -1;
    }

    private State withOrder(List<Integer> order, int hot) {
        return new State(state.edges, List.copyOf(order), hot, state.alignment);
    }

    private void permute(List<Integer> start, List<Integer> rest, List<State> found) {
        if (rest.isEmpty()) {
            List<Integer> order = new ArrayList<>(start);
            order.addAll(state.order.subList(state.hot, state.order.size()));
            found.add(withOrder(order, state.hot));
        }
        for (Integer b : rest) {
            List<Integer> longer = new ArrayList<>(start);
            longer.add(b);
            List<Integer> shorter = new ArrayList<>(rest);
            shorter.remove(b);
            permute(longer, shorter, found);
        }
    }

    private State optimum() {
        List<State> found = new ArrayList<>();
        permute(List.of(0), state.order.subList(1, state.hot), found);
        State best = null;
        int bestCost = 0;
        for (State s : found) {
            int c = costOf(s);
            if (best == null || c < bestCost || (c == bestCost && isBefore(s.order, best.order))) {
                best = s;
                bestCost = c;
            }
        }
        return best;
    }

    private static boolean isBefore(List<Integer> one, List<Integer> other) {
        return one.toString().compareTo(other.toString()) < 0;
    }

    int optimalCost() {
        return costOf(optimum());
    }

    private State rotated(State s, int first, int last, int r) {
        int d = last - first + 1;
        List<Integer> order = new ArrayList<>(s.order);
        for (int i = 0; i < d; i++) {
            order.set(first + (i - r + d) % d, s.order.get(first + i));
        }
        return new State(s.edges, order, s.hot, s.alignment);
    }

    private int rangeError(State s, int first, int last) {
        if (!isBlock(first) || !isBlock(last)) {
            return -1;
        }
        return first == 0 || first > last || last >= s.hot ? -3 : 0;
    }

    int bestRotation(int first, int last) {
        if (rangeError(state, first, last) != 0) {
            return rangeError(state, first, last);
        }
        int best = 0;
        for (int r = last - first; r >= 0; r--) {
            if (costOf(rotated(state, first, last, r)) <= costOf(rotated(state, first, last, best))) {
                best = r;
            }
        }
        return best;
    }

    // ---- actions

    private void act(State next) {
        past.addLast(state);
        if (past.size() > 14) {
            past.removeFirst();
        }
        state = next;
    }

    private int weight(List<Integer> placed, List<Integer> chain) {
        return allEdges(state).stream()
            .filter(e -> (placed.contains(e.from) && chain.contains(e.to)) || (chain.contains(e.from) && placed.contains(e.to)))
            .mapToInt(Numbered::count).sum();
    }

    int orderByChains() {
        List<List<Integer>> left = chains();
        left.sort(Comparator.comparing(chain -> chain.get(0)));
        List<Integer> order = new ArrayList<>(left.remove(0));
        while (!left.isEmpty()) {
            List<Integer> heaviest = left.get(0);
            for (List<Integer> chain : left) {
                heaviest = weight(order, chain) > weight(order, heaviest) ? chain : heaviest;
            }
            order.addAll(heaviest);
            left.remove(heaviest);
        }
        act(withOrder(order, order.size()));
        return cost();
    }

    int orderOptimally() {
        act(optimum());
        return cost();
    }

    private int swapError(int i, int j) {
        if (!isBlock(i) || !isBlock(j)) {
            return -1;
        }
        return i == 0 || j == 0 ? -3 : 0;
    }

    private State swapped(State s, int i, int j) {
        List<Integer> order = new ArrayList<>(s.order);
        order.set(i, s.order.get(j));
        order.set(j, s.order.get(i));
        return new State(s.edges, order, s.hot, s.alignment);
    }

    int swap(int i, int j) {
        if (swapError(i, j) != 0) {
            return swapError(i, j);
        }
        act(swapped(state, i, j));
        return cost();
    }

    int rotate(int first, int last) {
        if (rangeError(state, first, last) != 0) {
            return rangeError(state, first, last);
        }
        act(rotated(state, first, last, 1));
        return cost();
    }

    private State divided(State s, int threshold) {
        List<Integer> hot = new ArrayList<>(s.order);
        hot.removeIf(b -> b != 0 && executionsIn(s, b) < threshold);
        List<Integer> order = new ArrayList<>(hot);
        for (int b : s.order) {
            if (!hot.contains(b)) {
                order.add(b);
            }
        }
        return new State(s.edges, order, hot.size(), s.alignment);
    }

    int split(int threshold) {
        if (threshold < 1 || threshold > 99) {
            return -2;
        }
        act(divided(state, threshold));
        return state.hot;
    }

    private int bypassError(State s, int b) {
        if (!isBlock(b)) {
            return -1;
        }
        boolean fits = b != 0 && sizes.get(b) == 0 && s.edges.get(b).size() == 1 && s.edges.get(b).get(0).to != b;
        return fits ? 0 : -3;
    }

    private State bypassed(State s, int b) {
        int to = s.edges.get(b).get(0).to;
        List<List<Edge>> edges = new ArrayList<>();
        for (List<Edge> own : s.edges) {
            List<Edge> changed = new ArrayList<>();
            for (Edge e : own) {
                changed.add(e.to == b ? new Edge(to, e.count) : e);
            }
            if (changed.size() == 2 && changed.get(0).to == changed.get(1).to) {
                int sum = changed.get(0).count + changed.get(1).count;
                changed = List.of(new Edge(changed.get(0).to, sum > 99 ? 99 : sum));
            }
            edges.add(changed);
        }
        edges.set(b, List.of(new Edge(to, 0)));
        return new State(edges, s.order, s.hot, s.alignment);
    }

    int bypass(int b) {
        if (bypassError(state, b) != 0) {
            return bypassError(state, b);
        }
        int led = (int) allEdges(state).stream().filter(e -> e.to == b).count();
        act(bypassed(state, b));
        return led;
    }

    int setCount(int b, int k, int c) {
        if (!isEdge(b, k)) {
            return -1;
        }
        if (c < 0 || c > 99) {
            return -2;
        }
        int previous = edgeCount(b, k);
        List<List<Edge>> edges = new ArrayList<>(state.edges);
        List<Edge> own = new ArrayList<>(edges.get(b));
        own.set(k, new Edge(own.get(k).to, c));
        edges.set(b, own);
        act(new State(edges, state.order, state.hot, state.alignment));
        return previous;
    }

    int setAlignment(int a) {
        if (!List.of(1, 2, 4, 8, 16).contains(a)) {
            return -2;
        }
        int previous = state.alignment;
        act(new State(state.edges, state.order, state.hot, a));
        return previous;
    }

    int undo() {
        if (past.isEmpty()) {
            return -3;
        }
        state = past.removeLast();
        return past.size();
    }

    // ---- scripts, execution

    /** The state after the command, or null if it fails. */
    private State command(State s, String group) {
        int d2 = group.charAt(1) - '0';
        int d3 = group.charAt(2) - '0';
        int d4 = group.charAt(3) - '0';
        int two = 10 * d3 + d4;
        int three = 100 * d2 + two;
        return switch (group.charAt(0)) {
            case '1' -> d4 == 0 && swapError(d2, d3) == 0 ? swapped(s, d2, d3) : null;
            case '2' -> d4 == 0 && rangeError(s, d2, d3) == 0 ? rotated(s, d2, d3, 1) : null;
            case '3' -> d2 == 0 && two != 0 ? divided(s, two) : null;
            case '4' -> isBlock(d2) && addresses(s)[d2] == two ? s : null;
            case '5' -> costOf(s) == three ? s : null;
            case '6' -> addresses(s)[sizes.size()] == three ? s : null;
            case '7' -> two == 0 && bypassError(s, d2) == 0 ? bypassed(s, d2) : null;
            case '8' -> d4 == 0 && isBlock(d2) && isBlock(d3) && follower(s, d2) == d3 ? s : null;
            default -> null;
        };
    }

    int runScript(int n, long script) {
        if (n < 1 || n > 4 || script < 0 || Long.toString(script).length() > 4 * n) {
            return -2;
        }
        String digits = "0".repeat(4 * n - Long.toString(script).length()) + script;
        State s = state;
        for (int i = 0; i < n; i++) {
            s = command(s, digits.substring(4 * i, 4 * i + 4));
            if (s == null) {
                return i;
            }
        }
        return -9;
    }

    int execute(long seed, int m) {
        if (m < 1 || m > 99) {
            return -2;
        }
        long x = seed;
        int b = 0;
        int sum = 0;
        for (int i = 0; i < m; i++) {
            x = x * 6364136223846793005L + 1442695040888963407L;
            int v = (int) (x >>> 33);
            List<Edge> own = state.edges.get(b);
            if (own.isEmpty()) {
                b = 0;
                continue;
            }
            int k = 0;
            if (own.size() == 2) {
                int c = own.get(0).count;
                int t = c + own.get(1).count;
                k = t == 0 || v % t < c ? 0 : 1;
            }
            sum += costOfEdge(state, b, k);
            b = own.get(k).to;
        }
        return sum;
    }

    // ---- save slots

    int save(int slot) {
        if (slot != 0 && slot != 1) {
            return -1;
        }
        slots[slot] = state;
        return state.hot;
    }

    int restore(int slot) {
        if (slot != 0 && slot != 1) {
            return -1;
        }
        if (slots[slot] == null) {
            return -3;
        }
        state = slots[slot];
        past.clear();
        return state.hot;
    }
}
