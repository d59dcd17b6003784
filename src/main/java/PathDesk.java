import java.util.Arrays;

/**
 * A store of nodes and labelled edges that is asked for paths told by expressions: which nodes a
 * path leads to, how short the shortest one is, which pairs two expressions have in common.
 */
public final class PathDesk {
    public static final int NONE = -1;

    private static final int NODES = 32;
    private static final int LABELS = 8;
    private static final int TAGS = 4;
    private static final int SLOTS = 4;
    private static final int MOST_EDGES = 300;
    private static final int MOST_CHARACTERS = 100;
    private static final int MOST_BYTES = 8;
    private static final int MOST_STEPS = 80;
    private static final int MOST_OPEN = 10;
    private static final int TOO_MANY_STEPS = -2;

    private static final int ALL_NODES = -1;
    private static final int ALL_LABELS = (1 << LABELS) - 1;

    private static final int EDGES_COUNT = 0;
    private static final int CHARACTERS_COUNT = 1;
    private static final int FIRST_SLOT_COUNT = 2;
    private static final int FIRST_LABEL_COUNT = FIRST_SLOT_COUNT + SLOTS;
    private static final int FIRST_TAG_COUNT = FIRST_LABEL_COUNT + LABELS;

    private static final int ALL_PAIRS = 0;
    private static final int SHARED_PAIRS = 1;
    private static final int OWN_PAIRS = 2;
    private static final int TURNED_PAIRS = 3;
    private static final int LED_ON_PAIRS = 4;

    private final Graph graph = new Graph();
    private final Reader reader = new Reader();
    private final Bench bench = new Bench();
    private final int[] characters = new int[MOST_CHARACTERS];
    private int waiting = 0;
    private final Expression[] expressions = new Expression[SLOTS];
    private final Relation[] relations = new Relation[SLOTS];
    private final boolean[] known = new boolean[SLOTS];

    public PathDesk() {
        for (int slot = 0; slot < SLOTS; slot++) {
            expressions[slot] = new Expression();
            relations[slot] = new Relation();
        }
    }

    public boolean edge(int from, int label, int to) throws IllegalArgumentException {
        needNode(from);
        needLabel(label);
        needNode(to);
        if (graph.hasEdge(from, label, to) || graph.edges == MOST_EDGES) {
            return false;
        }
        graph.putEdge(from, label, to);
        forgetRelations();
        return true;
    }

    public boolean cut(int from, int label, int to) throws IllegalArgumentException {
        needNode(from);
        needLabel(label);
        needNode(to);
        if (!graph.hasEdge(from, label, to)) {
            return false;
        }
        graph.dropEdge(from, label, to);
        forgetRelations();
        return true;
    }

    public void tag(int node, int tag, boolean on) throws IllegalArgumentException {
        needNode(node);
        if (tag < 0 || tag >= TAGS) {
            throw new IllegalArgumentException("no such tag");
        }
        graph.setTag(node, tag, on);
        forgetRelations();
    }

    public int feed(long chars, int n) throws IllegalArgumentException {
        if (n < 1 || n > MOST_BYTES) {
            throw new IllegalArgumentException("n is not 1 .. 8");
        }
        if (waiting + n > MOST_CHARACTERS) {
            return NONE;
        }
        for (int left = n - 1; left >= 0; left--) {
            characters[waiting] = (int) (chars >>> (8 * left)) & 255;
            waiting++;
        }
        return waiting;
    }

    public int load(int slot) throws IndexOutOfBoundsException {
        needSlot(slot);
        Expression told = expressions[slot];
        int wrong = reader.read(characters, waiting, told);
        waiting = 0;
        known[slot] = false;
        if (wrong != NONE) {
            told.makeEmptyRow();
            return 1 + wrong;
        }
        if (told.steps > MOST_STEPS) {
            told.makeEmptyRow();
            return TOO_MANY_STEPS;
        }
        return 0;
    }

    public int reach(int slot, int node, boolean backwards)
            throws IndexOutOfBoundsException, IllegalArgumentException {
        needSlot(slot);
        needNode(node);
        Relation relation = relationOf(slot);
        return backwards ? relation.sourcesOf(node) : relation.targets[node];
    }

    public int distance(int slot, int from, int to)
            throws IndexOutOfBoundsException, IllegalArgumentException {
        needSlot(slot);
        needNode(from);
        needNode(to);
        return relationOf(slot).lengthOf(from, to);
    }

    public int span(int slot) throws IndexOutOfBoundsException {
        needSlot(slot);
        return relationOf(slot).greatestLength();
    }

    public int pairs(int slot, int other, int how)
            throws IndexOutOfBoundsException, IllegalArgumentException {
        needSlot(slot);
        needSlot(other);
        if (how < ALL_PAIRS || how > LED_ON_PAIRS) {
            throw new IllegalArgumentException("how is not 0 .. 4");
        }
        Relation first = relationOf(slot);
        if (how == ALL_PAIRS) {
            return first.pairCount();
        }
        Relation second = relationOf(other);
        switch (how) {
            case SHARED_PAIRS:
                return first.pairsSharedWith(second);
            case OWN_PAIRS:
                return first.pairCount() - first.pairsSharedWith(second);
            case TURNED_PAIRS:
                return first.pairsTurnedIn(second);
            default:
                return first.pairsLedOnBy(second);
        }
    }

    public int circle(int slot) throws IndexOutOfBoundsException {
        needSlot(slot);
        return relationOf(slot).leastOnCircle();
    }

    public int best(int slot) throws IndexOutOfBoundsException {
        needSlot(slot);
        return relationOf(slot).richestNode();
    }

    public int count(int what) {
        if (what < EDGES_COUNT || what >= FIRST_TAG_COUNT + TAGS) {
            return NONE;
        }
        if (what == EDGES_COUNT) {
            return graph.edges;
        }
        if (what == CHARACTERS_COUNT) {
            return waiting;
        }
        if (what < FIRST_LABEL_COUNT) {
            return expressions[what - FIRST_SLOT_COUNT].steps;
        }
        if (what < FIRST_TAG_COUNT) {
            return graph.edgesOf(what - FIRST_LABEL_COUNT);
        }
        return Integer.bitCount(graph.nodesWith(what - FIRST_TAG_COUNT));
    }

    private Relation relationOf(int slot) {
        Relation relation = relations[slot];
        if (!known[slot]) {
            Expression told = expressions[slot];
            bench.clear();
            for (int place = 0; place < told.size; place++) {
                bench.carryOut(told.orders[place], graph);
            }
            relation.clear();
            relation.addAll(bench.top());
            known[slot] = true;
        }
        return relation;
    }

    private void forgetRelations() {
        for (int slot = 0; slot < SLOTS; slot++) {
            known[slot] = false;
        }
    }

    private static void needSlot(int slot) {
        if (slot < 0 || slot >= SLOTS) {
            throw new IndexOutOfBoundsException("no such slot");
        }
    }

    private static void needNode(int node) {
        if (node < 0 || node >= NODES) {
            throw new IllegalArgumentException("no such node");
        }
    }

    private static void needLabel(int label) {
        if (label < 0 || label >= LABELS) {
            throw new IllegalArgumentException("no such label");
        }
    }

    private static boolean isIn(int nodes, int node) {
        return (nodes >>> node & 1) != 0;
    }

    /** The edges and the tags. */
    private static final class Graph {
        private final int[] targets = new int[LABELS * NODES];
        private final int[] tagged = new int[TAGS];
        private int edges = 0;

        boolean hasEdge(int from, int label, int to) {
            return isIn(targets[label * NODES + from], to);
        }

        void putEdge(int from, int label, int to) {
            targets[label * NODES + from] |= 1 << to;
            edges++;
        }

        void dropEdge(int from, int label, int to) {
            targets[label * NODES + from] &= ~(1 << to);
            edges--;
        }

        void setTag(int node, int tag, boolean on) {
            if (on) {
                tagged[tag] |= 1 << node;
            } else {
                tagged[tag] &= ~(1 << node);
            }
        }

        int nodesWith(int tag) {
            return tagged[tag];
        }

        int edgesOf(int label) {
            int sum = 0;
            for (int from = 0; from < NODES; from++) {
                sum += Integer.bitCount(targets[label * NODES + from]);
            }
            return sum;
        }

        int nextOf(int from, int labels) {
            int nodes = 0;
            for (int label = 0; label < LABELS; label++) {
                if ((labels >>> label & 1) != 0) {
                    nodes |= targets[label * NODES + from];
                }
            }
            return nodes;
        }
    }

    /** Pairs of nodes, each with the length of its shortest path. */
    private static final class Relation {
        private final int[] targets = new int[NODES];
        /** Looked at only where targets has the pair, so that clearing need not touch it. */
        private final int[] lengths = new int[NODES * NODES];

        void clear() {
            Arrays.fill(targets, 0);
        }

        void offer(int from, int to, int length) {
            int place = from * NODES + to;
            int bit = 1 << to;
            if ((targets[from] & bit) == 0 || length < lengths[place]) {
                targets[from] |= bit;
                lengths[place] = length;
            }
        }

        void addStays(int nodes) {
            for (int node = 0; node < NODES; node++) {
                if (isIn(nodes, node)) {
                    offer(node, node, 0);
                }
            }
        }

        void addEdges(Graph graph, int labels, boolean backwards) {
            for (int from = 0; from < NODES; from++) {
                int next = graph.nextOf(from, labels);
                for (int to = 0; to < NODES && next >>> to != 0; to++) {
                    if (!isIn(next, to)) {
                        continue;
                    }
                    if (backwards) {
                        offer(to, from, 1);
                    } else {
                        offer(from, to, 1);
                    }
                }
            }
        }

        void addAll(Relation other) {
            for (int from = 0; from < NODES; from++) {
                addGoingOn(from, 0, other, from);
            }
        }

        /** Neither of both may be this one, which is cleared first. */
        void setToChain(Relation first, Relation second) {
            clear();
            for (int from = 0; from < NODES; from++) {
                int ends = first.targets[from];
                for (int via = 0; via < NODES && ends >>> via != 0; via++) {
                    if (isIn(ends, via)) {
                        addGoingOn(from, first.lengths[from * NODES + via], second, via);
                    }
                }
            }
        }

        /**
         * Adds what one pair or more behind one another give. One turn for each node in between is
         * enough, since no length is below 0 and so no detour makes a path shorter.
         */
        void repeatAtWill() {
            for (int via = 0; via < NODES; via++) {
                for (int from = 0; from < NODES; from++) {
                    if (isIn(targets[from], via)) {
                        addGoingOn(from, lengths[from * NODES + via], this, via);
                    }
                }
            }
        }

        /** Adds a node's paths that go to via in some length and on from there by a pair of next. */
        private void addGoingOn(int from, int length, Relation next, int via) {
            int ends = next.targets[via];
            for (int to = 0; to < NODES && ends >>> to != 0; to++) {
                if (isIn(ends, to)) {
                    offer(from, to, length + next.lengths[via * NODES + to]);
                }
            }
        }

        int sourcesOf(int node) {
            int nodes = 0;
            for (int from = 0; from < NODES; from++) {
                if (isIn(targets[from], node)) {
                    nodes |= 1 << from;
                }
            }
            return nodes;
        }

        int lengthOf(int from, int to) {
            return isIn(targets[from], to) ? lengths[from * NODES + to] : NONE;
        }

        int greatestLength() {
            int greatest = NONE;
            for (int from = 0; from < NODES; from++) {
                for (int to = 0; to < NODES; to++) {
                    greatest = Math.max(greatest, lengthOf(from, to));
                }
            }
            return greatest;
        }

        int pairCount() {
            int sum = 0;
            for (int from = 0; from < NODES; from++) {
                sum += Integer.bitCount(targets[from]);
            }
            return sum;
        }

        int pairsSharedWith(Relation other) {
            int sum = 0;
            for (int from = 0; from < NODES; from++) {
                sum += Integer.bitCount(targets[from] & other.targets[from]);
            }
            return sum;
        }

        int pairsTurnedIn(Relation other) {
            int sum = 0;
            for (int from = 0; from < NODES; from++) {
                sum += Integer.bitCount(targets[from] & other.sourcesOf(from));
            }
            return sum;
        }

        int pairsLedOnBy(Relation other) {
            int sum = 0;
            for (int from = 0; from < NODES; from++) {
                int ends = 0;
                for (int via = 0; via < NODES; via++) {
                    if (isIn(targets[from], via)) {
                        ends |= other.targets[via];
                    }
                }
                sum += Integer.bitCount(ends);
            }
            return sum;
        }

        int leastOnCircle() {
            for (int node = 0; node < NODES; node++) {
                if (isIn(targets[node], node)) {
                    return node;
                }
            }
            return NONE;
        }

        int richestNode() {
            int richest = NONE;
            int most = 0;
            for (int node = 0; node < NODES; node++) {
                int here = Integer.bitCount(targets[node]);
                if (here > most) {
                    richest = node;
                    most = here;
                }
            }
            return richest;
        }
    }

    /**
     * An expression as orders to a bench, what an order works on told ahead of it. Copies are not
     * written out, for without steps there is no limit to them.
     */
    private static final class Expression {
        /** Lays down a relation without pairs. */
        private static final int NOTHING = 0;
        /** Lays down each node's pair with itself. */
        private static final int STAYS = 1;
        /** These lay down a step; more says which labels, or which tag. */
        private static final int FORWARDS = 2;
        private static final int BACKWARDS = 3;
        private static final int HAS_TAG = 4;
        private static final int HAS_NOT_TAG = 5;
        /** These make one of the two on top. */
        private static final int CHAIN = 6;
        private static final int JOIN = 7;
        /** These change the one on top; for TIMES, more is m * TIMES_BASE + n. */
        private static final int STAR = 8;
        private static final int PLUS = 9;
        private static final int MAYBE = 10;
        private static final int TIMES = 11;

        private static final int TIMES_BASE = 10;
        private static final int KIND_BITS = 4;
        private static final int KIND_MASK = (1 << KIND_BITS) - 1;
        /** A character gives two orders at most, and the outermost alternative three of its own. */
        private static final int MOST_ORDERS = 2 * MOST_CHARACTERS + 3;

        private final int[] orders = new int[MOST_ORDERS];
        private int size = 0;
        private int steps = 0;

        Expression() {
            orders[0] = STAYS;
            size = 1;
        }

        void clear() {
            size = 0;
            steps = 0;
        }

        void makeEmptyRow() {
            clear();
            append(STAYS, 0);
        }

        void append(int kind, int more) {
            if (size < MOST_ORDERS) {
                orders[size] = kind | more << KIND_BITS;
                size++;
            }
        }
    }

    /** Turns characters into an expression, one character after the other. */
    private static final class Reader {
        private static final int IN_ROW = 0;
        private static final int BEHIND_HAT = 1;
        private static final int BEHIND_BRACKET = 2;
        private static final int BEHIND_NOT = 3;
        private static final int BEHIND_TAG = 4;
        private static final int BEHIND_BRACE = 5;
        private static final int BEHIND_LEAST = 6;
        private static final int BEHIND_COMMA = 7;
        private static final int BEHIND_MOST = 8;

        /** More steps than that are all alike, and no product of them grows out of an int. */
        private static final int STEPS_CEILING = MOST_STEPS + 1;

        /** For each group that is open, the steps of its repeats that have ended. */
        private final int[] endedSteps = new int[MOST_OPEN + 1];
        private Expression told = new Expression();
        private int state = IN_ROW;
        private int open = 0;
        private boolean inRepeat = false;
        private int repeatSteps = 0;
        private int least = 0;
        private int most = 0;

        /** The place of the first character that can't be there, n when more must come, or NONE. */
        int read(int[] characters, int n, Expression into) {
            start(into);
            for (int place = 0; place < n; place++) {
                int character = characters[place];
                if (!(state == IN_ROW ? takeInRow(character) : takeInside(character))) {
                    return place;
                }
            }
            if (state != IN_ROW || open > 0) {
                return n;
            }
            endRow();
            told.steps = endedSteps[0];
            return NONE;
        }

        private void start(Expression into) {
            told = into;
            told.clear();
            state = IN_ROW;
            open = 0;
            inRepeat = false;
            startAlternative();
        }

        /** Takes what stands inside a step or a { }, behind its first character. */
        private boolean takeInside(int character) {
            switch (state) {
                case BEHIND_HAT:
                    return takeStep(character, Expression.BACKWARDS);
                case BEHIND_BRACKET:
                    return character == '!' ? goOnTo(BEHIND_NOT) : takeTag(character, Expression.HAS_TAG);
                case BEHIND_NOT:
                    return takeTag(character, Expression.HAS_NOT_TAG);
                case BEHIND_TAG:
                    return character == ']' && goOnTo(IN_ROW);
                case BEHIND_BRACE:
                    return takeLeast(character);
                case BEHIND_LEAST:
                    return character == ',' ? goOnTo(BEHIND_COMMA) : takeBraceEnd(character);
                case BEHIND_COMMA:
                    return takeMost(character);
                default:
                    return takeBraceEnd(character);
            }
        }

        private boolean takeInRow(int character) {
            switch (character) {
                case '(':
                    return openGroup();
                case ')':
                    return closeGroup();
                case '|':
                    endRow();
                    told.append(Expression.STAYS, 0);
                    return true;
                case '^':
                    return goOnTo(BEHIND_HAT);
                case '[':
                    return goOnTo(BEHIND_BRACKET);
                case '*':
                    return changeRepeat(Expression.STAR);
                case '+':
                    return changeRepeat(Expression.PLUS);
                case '?':
                    return changeRepeat(Expression.MAYBE);
                case '{':
                    return inRepeat && goOnTo(BEHIND_BRACE);
                default:
                    return takeStep(character, Expression.FORWARDS);
            }
        }

        private boolean goOnTo(int next) {
            state = next;
            return true;
        }

        private boolean takeStep(int character, int kind) {
            if (character == '.') {
                addStep(kind, ALL_LABELS);
                return goOnTo(IN_ROW);
            }
            int label = character - 'a';
            if (label < 0 || label >= LABELS) {
                return false;
            }
            addStep(kind, 1 << label);
            return goOnTo(IN_ROW);
        }

        private boolean takeTag(int character, int kind) {
            int tag = character - '0';
            if (tag < 0 || tag >= TAGS) {
                return false;
            }
            addStep(kind, tag);
            return goOnTo(BEHIND_TAG);
        }

        private boolean takeLeast(int character) {
            if (!isDigit(character)) {
                return false;
            }
            least = character - '0';
            most = least;
            return goOnTo(BEHIND_LEAST);
        }

        private boolean takeMost(int character) {
            if (!isDigit(character)) {
                return false;
            }
            most = character - '0';
            return most >= least && most > 0 && goOnTo(BEHIND_MOST);
        }

        private boolean takeBraceEnd(int character) {
            if (character != '}' || most == 0) {
                return false;
            }
            told.append(Expression.TIMES, least * Expression.TIMES_BASE + most);
            repeatSteps = Math.min(repeatSteps * most, STEPS_CEILING);
            return goOnTo(IN_ROW);
        }

        private boolean changeRepeat(int kind) {
            if (inRepeat) {
                told.append(kind, 0);
            }
            return inRepeat;
        }

        private boolean openGroup() {
            if (open == MOST_OPEN) {
                return false;
            }
            endRepeat();
            open++;
            startAlternative();
            return true;
        }

        private boolean closeGroup() {
            if (open == 0) {
                return false;
            }
            endRow();
            startRepeat(endedSteps[open]);
            open--;
            return true;
        }

        private void startAlternative() {
            endedSteps[open] = 0;
            told.append(Expression.NOTHING, 0);
            told.append(Expression.STAYS, 0);
        }

        private void endRow() {
            endRepeat();
            told.append(Expression.JOIN, 0);
        }

        private void addStep(int kind, int more) {
            endRepeat();
            told.append(kind, more);
            startRepeat(1);
        }

        private void startRepeat(int steps) {
            inRepeat = true;
            repeatSteps = steps;
        }

        /** Only here is a repeat chained to its row: till then * and its like may follow. */
        private void endRepeat() {
            if (inRepeat) {
                told.append(Expression.CHAIN, 0);
                endedSteps[open] = Math.min(endedSteps[open] + repeatSteps, STEPS_CEILING);
                inRepeat = false;
            }
        }

        private static boolean isDigit(int character) {
            return character >= '0' && character <= '9';
        }
    }

    /** Carries out an expression's orders on a pile of relations. */
    private static final class Bench {
        /** Two for each alternative that is open, the repeat at hand and the copies made of it. */
        private static final int MOST_HIGH = 2 * (MOST_OPEN + 1) + 2;

        private final Relation[] pile = new Relation[MOST_HIGH];
        private int height = 0;
        private Relation spare = new Relation();

        void clear() {
            height = 0;
        }

        Relation top() {
            return at(height - 1);
        }

        void carryOut(int order, Graph graph) {
            int more = order >>> Expression.KIND_BITS;
            switch (order & Expression.KIND_MASK) {
                case Expression.NOTHING:
                    layDown();
                    break;
                case Expression.STAYS:
                    layDown().addStays(ALL_NODES);
                    break;
                case Expression.FORWARDS:
                    layDown().addEdges(graph, more, false);
                    break;
                case Expression.BACKWARDS:
                    layDown().addEdges(graph, more, true);
                    break;
                case Expression.HAS_TAG:
                    layDown().addStays(graph.nodesWith(more));
                    break;
                case Expression.HAS_NOT_TAG:
                    layDown().addStays(~graph.nodesWith(more));
                    break;
                case Expression.CHAIN:
                    chainTwo();
                    break;
                case Expression.JOIN:
                    joinTwo();
                    break;
                case Expression.STAR:
                    top().repeatAtWill();
                    top().addStays(ALL_NODES);
                    break;
                case Expression.PLUS:
                    top().repeatAtWill();
                    break;
                case Expression.MAYBE:
                    top().addStays(ALL_NODES);
                    break;
                default:
                    copyTop(more / Expression.TIMES_BASE, more % Expression.TIMES_BASE);
                    break;
            }
        }

        /**
         * Made when first needed, since few expressions need a high pile, and then used again. What
         * the reader writes stays inside the pile; the bounds here make that plain.
         */
        private Relation at(int place) {
            int inside = Math.max(0, Math.min(place, MOST_HIGH - 1));
            if (pile[inside] == null) {
                pile[inside] = new Relation();
            }
            return pile[inside];
        }

        private Relation layDown() {
            height = Math.min(height + 1, MOST_HIGH);
            Relation relation = at(height - 1);
            relation.clear();
            return relation;
        }

        private void joinTwo() {
            if (height >= 2) {
                height--;
                top().addAll(at(height));
            }
        }

        private void chainTwo() {
            if (height >= 2) {
                height--;
                Relation first = top();
                spare.setToChain(first, at(height));
                pile[height - 1] = spare;
                spare = first;
            }
        }

        /** All copies are of the same relation, so it is no matter that the last comes first. */
        private void copyTop(int least, int most) {
            Relation one = top();
            Relation done = layDown();
            done.addStays(ALL_NODES);
            for (int turn = 0; turn < most; turn++) {
                Relation next = spare;
                next.setToChain(one, done);
                if (turn >= least) {
                    next.addAll(done);
                }
                spare = done;
                done = next;
            }
            if (height >= 2) {
                height--;
                pile[height - 1] = done;
                pile[height] = one;
            }
        }
    }
}
