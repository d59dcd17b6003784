import java.util.ArrayDeque;
import java.util.ArrayList;
import java.util.Arrays;
import java.util.List;
import java.util.TreeSet;

/**
 * The document again, in another way: an expression is written out as a net of states, copies and
 * all, and its paths are looked for from each node; a wrong character is found by trying to go on.
 */
final class Model {
    private record Edge(int from, int label, int to) implements Comparable<Edge> {
        @Override
        public int compareTo(Edge other) {
            return Integer.compare(from * 1000 + label * 100 + to, other.from * 1000 + other.label * 100 + other.to);
        }
    }

    /** A move from state to state: by an edge, by a test, or (kind 'e') by nothing. */
    private record Move(int next, char kind, int which) {
    }

    private final TreeSet<Edge> edges = new TreeSet<>();
    private final boolean[][] tags = new boolean[32][4];
    private final String[] told = {"", "", "", ""};
    private String characters = "";
    /** The distances of a slot, null when something has changed since. */
    private final int[][][] known = new int[4][][];

    boolean edge(int from, int label, int to) {
        Arrays.fill(known, null);
        return edges.size() < 300 && edges.add(new Edge(from, label, to));
    }

    boolean cut(int from, int label, int to) {
        Arrays.fill(known, null);
        return edges.remove(new Edge(from, label, to));
    }

    void tag(int node, int tag, boolean on) {
        Arrays.fill(known, null);
        tags[node][tag] = on;
    }

    int feed(long chars, int n) {
        if (characters.length() + n > 100) {
            return -1;
        }
        for (int i = n - 1; i >= 0; i--) {
            characters += (char) (chars >> 8 * i & 255);
        }
        return characters.length();
    }

    int load(int slot) {
        Arrays.fill(known, null);
        String text = characters;
        characters = "";
        told[slot] = "";
        for (int length = 1; length <= text.length(); length++) {
            if (!canGoOn(text.substring(0, length))) {
                return length;
            }
        }
        if (!isExpression(text)) {
            return 1 + text.length();
        }
        if (steps(text) > 80) {
            return -2;
        }
        told[slot] = text;
        return 0;
    }

    int count(int what) {
        if (what == 0) {
            return edges.size();
        }
        if (what == 1) {
            return characters.length();
        }
        if (what >= 2 && what < 6) {
            return (int) steps(told[what - 2]);
        }
        if (what >= 6 && what < 14) {
            return (int) edges.stream().filter(edge -> edge.label == what - 6).count();
        }
        if (what >= 14 && what < 18) {
            return (int) Arrays.stream(tags).filter(of -> of[what - 14]).count();
        }
        return -1;
    }

    /** The shortest length for each pair, -1 without one. */
    int[][] distances(int slot) {
        if (known[slot] == null) {
            Net net = new Net(told[slot]);
            int[][] all = new int[32][];
            for (int node = 0; node < 32; node++) {
                all[node] = distancesFrom(node, net);
            }
            known[slot] = all;
        }
        return known[slot];
    }

    int reach(int slot, int node, boolean backwards) {
        int[][] all = distances(slot);
        int bits = 0;
        for (int other = 0; other < 32; other++) {
            if ((backwards ? all[other][node] : all[node][other]) >= 0) {
                bits += 1 << other;
            }
        }
        return bits;
    }

    int span(int slot) {
        return Arrays.stream(distances(slot)).flatMapToInt(Arrays::stream).max().getAsInt();
    }

    int pairs(int slot, int other, int how) {
        int[][] first = distances(slot);
        int[][] second = distances(other);
        int sum = 0;
        for (int from = 0; from < 32; from++) {
            for (int to = 0; to < 32; to++) {
                boolean in = first[from][to] >= 0;
                boolean counts = switch (how) {
                    case 0 -> in;
                    case 1 -> in && second[from][to] >= 0;
                    case 2 -> in && second[from][to] < 0;
                    case 3 -> in && second[to][from] >= 0;
                    default -> leadsOn(first, second, from, to);
                };
                sum += counts ? 1 : 0;
            }
        }
        return sum;
    }

    private static boolean leadsOn(int[][] first, int[][] second, int from, int to) {
        for (int via = 0; via < 32; via++) {
            if (first[from][via] >= 0 && second[via][to] >= 0) {
                return true;
            }
        }
        return false;
    }

    int circle(int slot) {
        int[][] all = distances(slot);
        for (int node = 0; node < 32; node++) {
            if (all[node][node] >= 0) {
                return node;
            }
        }
        return -1;
    }

    int best(int slot) {
        int best = -1;
        long most = 0;
        int[][] all = distances(slot);
        for (int node = 0; node < 32; node++) {
            long pairs = Arrays.stream(all[node]).filter(length -> length >= 0).count();
            if (pairs > most) {
                most = pairs;
                best = node;
            }
        }
        return best;
    }

    private int[] distancesFrom(int start, Net net) {
        int[][] shortest = new int[net.moves.size()][32];
        for (int[] row : shortest) {
            Arrays.fill(row, Integer.MAX_VALUE);
        }
        ArrayDeque<int[]> open = new ArrayDeque<>();
        shortest[net.first][start] = 0;
        open.add(new int[] {net.first, start, 0});
        while (!open.isEmpty()) {
            int[] at = open.removeFirst();
            if (at[2] > shortest[at[0]][at[1]]) {
                continue;
            }
            for (Move move : net.moves.get(at[0])) {
                boolean free = move.kind == 'e' || move.kind == 't' || move.kind == 'n';
                int length = at[2] + (free ? 0 : 1);
                for (int node : nodesBehind(at[1], move)) {
                    if (length < shortest[move.next][node]) {
                        shortest[move.next][node] = length;
                        int[] state = {move.next, node, length};
                        if (free) {
                            open.addFirst(state);
                        } else {
                            open.addLast(state);
                        }
                    }
                }
            }
        }
        return Arrays.stream(shortest[net.last]).map(length -> length == Integer.MAX_VALUE ? -1 : length).toArray();
    }

    private List<Integer> nodesBehind(int node, Move move) {
        List<Integer> nodes = new ArrayList<>();
        switch (move.kind) {
            case 'e' -> nodes.add(node);
            case 't' -> addIf(nodes, node, tags[node][move.which]);
            case 'n' -> addIf(nodes, node, !tags[node][move.which]);
            case 'f' -> edges.forEach(e -> addIf(nodes, e.to, e.from == node && (move.which < 0 || e.label == move.which)));
            default -> edges.forEach(e -> addIf(nodes, e.from, e.to == node && (move.which < 0 || e.label == move.which)));
        }
        return nodes;
    }

    private static void addIf(List<Integer> nodes, int node, boolean yes) {
        if (yes) {
            nodes.add(node);
        }
    }

    /** What can go on is what some end makes an expression: these ends are enough to find one. */
    private static boolean canGoOn(String text) {
        for (String end : new String[] {"", "a", "0]", "]", "9}", ",9}", "}"}) {
            for (int closed = 0; closed <= 10; closed++) {
                if (isExpression(text + end + ")".repeat(closed))) {
                    return true;
                }
            }
        }
        return false;
    }

    /** Repeatedly strikes out the innermost groups; what then remains must be rows of repeats. */
    static boolean isExpression(String text) {
        String repeats = "((\\^?[a-h.]|\\[!?[0-3]\\]|G)([*+?]|\\{[1-9]\\}|\\{[0-9],[1-9]\\})*)*";
        int open = 0;
        for (char c : text.toCharArray()) {
            open += c == '(' ? 1 : c == ')' ? -1 : 0;
            if (open < 0 || open > 10 || c == 'G') {
                return false;
            }
        }
        for (int i = 0; i + 4 < text.length(); i++) {
            if (text.substring(i, i + 5).matches("\\{[0-9],[0-9]\\}") && text.charAt(i + 1) > text.charAt(i + 3)) {
                return false;
            }
        }
        String rest = text;
        while (rest.contains("(")) {
            int start = rest.lastIndexOf('(');
            int end = rest.indexOf(')', start);
            if (end < 0 || !rest.substring(start + 1, end).matches(repeats + "(\\|" + repeats + ")*")) {
                return false;
            }
            rest = rest.substring(0, start) + "G" + rest.substring(end + 1);
        }
        return rest.matches(repeats + "(\\|" + repeats + ")*");
    }

    /** Only for an expression. */
    private static double steps(String text) {
        double sum = 0;
        for (String row : split(text)) {
            for (String repeat : cut(row)) {
                sum += stepsOfRepeat(repeat);
            }
        }
        return sum;
    }

    private static double stepsOfRepeat(String repeat) {
        int end = atomEnd(repeat);
        double steps = repeat.startsWith("(") ? steps(repeat.substring(1, end - 1)) : 1;
        for (int i = end; i < repeat.length(); i++) {
            if (repeat.charAt(i) == '}') {
                steps *= repeat.charAt(i - 1) - '0';
            }
        }
        return steps;
    }

    /** The rows of an alternative. */
    private static List<String> split(String text) {
        List<String> rows = new ArrayList<>();
        int open = 0;
        String row = "";
        for (char c : text.toCharArray()) {
            open += c == '(' ? 1 : c == ')' ? -1 : 0;
            if (c == '|' && open == 0) {
                rows.add(row);
                row = "";
            } else {
                row += c;
            }
        }
        rows.add(row);
        return rows;
    }

    /** The repeats of a row. */
    private static List<String> cut(String row) {
        List<String> repeats = new ArrayList<>();
        String rest = row;
        while (!rest.isEmpty()) {
            int end = atomEnd(rest);
            while (end < rest.length() && "*+?{".indexOf(rest.charAt(end)) >= 0) {
                end = rest.charAt(end) == '{' ? rest.indexOf('}', end) + 1 : end + 1;
            }
            repeats.add(rest.substring(0, end));
            rest = rest.substring(end);
        }
        return repeats;
    }

    private static int atomEnd(String text) {
        switch (text.charAt(0)) {
            case '^':
                return 2;
            case '[':
                return text.indexOf(']') + 1;
            case '(':
                int open = 0;
                for (int i = 0; i < text.length(); i++) {
                    open += text.charAt(i) == '(' ? 1 : text.charAt(i) == ')' ? -1 : 0;
                    if (open == 0) {
                        return i + 1;
                    }
                }
                throw new IllegalStateException(text);
            default:
                return 1;
        }
    }

    /** The states of an expression, every copy written out. */
    private static final class Net {
        final List<List<Move>> moves = new ArrayList<>();
        final int first;
        final int last;

        Net(String text) {
            first = state();
            last = state();
            alternative(text, first, last);
        }

        private int state() {
            moves.add(new ArrayList<>());
            return moves.size() - 1;
        }

        private void free(int from, int to) {
            moves.get(from).add(new Move(to, 'e', 0));
        }

        private void alternative(String text, int from, int to) {
            for (String row : split(text)) {
                int at = from;
                for (String repeat : cut(row)) {
                    int next = state();
                    repeat(repeat, at, next);
                    at = next;
                }
                free(at, to);
            }
        }

        private void repeat(String text, int from, int to) {
            if (stepsOfRepeat(text) == 0) {
                free(from, to);
                return;
            }
            char end = text.charAt(text.length() - 1);
            if (atomEnd(text) == text.length()) {
                atom(text, from, to);
            } else if (end == '}') {
                int start = text.lastIndexOf('{');
                int least = text.charAt(start + 1) - '0';
                int most = text.charAt(text.length() - 2) - '0';
                copies(text.substring(0, start), least, most, from, to);
            } else {
                String less = text.substring(0, text.length() - 1);
                int in = state();
                int out = state();
                free(from, in);
                free(out, to);
                repeat(less, in, out);
                if (end != '+') {
                    free(from, to);
                }
                if (end != '?') {
                    free(out, in);
                }
            }
        }

        private void copies(String text, int least, int most, int from, int to) {
            int at = from;
            for (int copy = 0; copy < most; copy++) {
                int next = state();
                repeat(text, at, next);
                if (copy >= least) {
                    free(at, next);
                }
                at = next;
            }
            free(at, to);
        }

        private void atom(String text, int from, int to) {
            char start = text.charAt(0);
            char mark = text.charAt(text.length() - 1);
            if (start == '(') {
                int in = state();
                int out = state();
                free(from, in);
                free(out, to);
                alternative(text.substring(1, text.length() - 1), in, out);
            } else if (start == '[') {
                char kind = text.charAt(1) == '!' ? 'n' : 't';
                moves.get(from).add(new Move(to, kind, text.charAt(text.length() - 2) - '0'));
            } else {
                int label = mark == '.' ? -1 : mark - 'a';
                moves.get(from).add(new Move(to, start == '^' ? 'b' : 'f', label));
            }
        }
    }
}
