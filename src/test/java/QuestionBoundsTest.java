/** Promises 7 to 12 at the bounds that the document names: slots, nodes, how, no pairs, all pairs. */
public final class QuestionBoundsTest {
    private static final int[] NO_HOWS = {-1, 5, 6, 8, -5, 256, 1 << 16, Integer.MIN_VALUE, Integer.MAX_VALUE};
    /** Two that are there and two that are not. */
    private static final int[] SOME_NODES = {0, 31, -1, 32};
    private static final int ALL = -1;

    private QuestionBoundsTest() {
    }

    public static void main(String[] args) {
        stepsMatchOneEdge();
        testsMatchOneTag();
        repeatsAtWillEnd();
        countedRepeatsEnd();
        countedGroupsEnd();
        tenGroupsMatch();
        relationsFollowTheStore();
        reachOfEachNode();
        reachOfNoneAndAll();
        reachThrows();
        distanceEnds();
        distanceIsTheShortest();
        distanceThrows();
        spanEnds();
        pairsEnd();
        pairsCountOnce();
        pairsOfOneSlot();
        pairsThrow();
        circleEnds();
        bestEnds();
        bestOfEqualOnes();
        spanCircleAndBestThrow();
        slotsAreApart();
        questionsChangeNothing();
        Check.end();
    }

    /** An edge a from each node to the next. */
    private static PathDesk row() {
        PathDesk desk = new PathDesk();
        for (int node = 0; node < 31; node++) {
            desk.edge(node, 0, node + 1);
        }
        return desk;
    }

    /** The row, and an edge a from the last node to the first. */
    private static PathDesk ring() {
        PathDesk desk = row();
        desk.edge(31, 0, 0);
        return desk;
    }

    private static void load(PathDesk desk, int slot, String text) {
        Check.due("load of " + text, 0, () -> Check.load(desk, slot, text));
    }

    private static void reached(PathDesk desk, String text, int node, int nodes) {
        load(desk, 0, text);
        Check.due(text + " from " + node, nodes, () -> desk.reach(0, node, false));
    }

    /** The nodes from one to another, none when the second is below the first; those above 31 are left out. */
    private static int nodesFrom(int first, int last) {
        int nodes = 0;
        for (int node = first; node <= Math.min(last, 31); node++) {
            nodes |= 1 << node;
        }
        return nodes;
    }

    /** Terms: a letter: one edge with that label, forwards; a dot: one edge; with ^: backwards. */
    private static void stepsMatchOneEdge() {
        for (int label = 0; label < 8; label++) {
            PathDesk desk = new PathDesk();
            desk.edge(0, label, 31);
            for (int other = 0; other < 8; other++) {
                char letter = (char) ('a' + other);
                reached(desk, "" + letter, 0, other == label ? 1 << 31 : 0);
                reached(desk, "^" + letter, 31, other == label ? 1 : 0);
                reached(desk, "" + letter, 31, 0);
                reached(desk, "^" + letter, 0, 0);
            }
            reached(desk, ".", 0, 1 << 31);
            reached(desk, "^.", 31, 1);
            reached(desk, ".", 31, 0);
            reached(desk, "^.", 0, 0);
            reached(desk, "..", 0, 0);
        }
    }

    /** Terms: [ d ]: a node that has tag d, [ ! d ]: that has not. */
    private static void testsMatchOneTag() {
        for (int node : new int[] {0, 31}) {
            for (int tag = 0; tag < 4; tag++) {
                PathDesk desk = new PathDesk();
                desk.tag(node, tag, true);
                for (int other = 0; other < 4; other++) {
                    reached(desk, "[" + other + "]", node, other == tag ? 1 << node : 0);
                    reached(desk, "[!" + other + "]", node, other == tag ? 0 : 1 << node);
                    reached(desk, "[" + other + "]", 31 - node, 0);
                    reached(desk, "[!" + other + "]", 31 - node, 1 << (31 - node));
                    reached(desk, "[" + other + "][!" + other + "]", node, 0);
                }
            }
        }
    }

    /** Terms: r*: no, one or more paths; r+: one or more; r?: r, or a node. */
    private static void repeatsAtWillEnd() {
        for (int node = 0; node < 32; node++) {
            PathDesk desk = row();
            int here = 1 << node;
            reached(desk, "a*", node, nodesFrom(node, 31));
            reached(desk, "a+", node, nodesFrom(node + 1, 31));
            reached(desk, "a?", node, nodesFrom(node, node + 1));
            reached(desk, "b*", node, here);
            reached(desk, "b+", node, 0);
        }
        PathDesk round = ring();
        reached(round, "a*", 5, ALL);
        reached(round, "a+", 5, ALL);
        Check.due("once round", 32, () -> round.distance(0, 5, 5));
        reached(round, "a*", 5, ALL);
        Check.due("not a step", 0, () -> round.distance(0, 5, 5));
        Check.due("all but once round", 31, () -> round.distance(0, 5, 4));
        reached(round, "()+", 5, 1 << 5);
        reached(round, "()*", 5, 1 << 5);
        reached(round, "()?", 5, 1 << 5);
        reached(round, "[0]+", 5, 0);
        reached(round, "[0]*", 5, 1 << 5);
    }

    /** Terms: r{m,n}: r, m times, and then n - m times r or nothing; r{m}: r{m,m}. */
    private static void countedRepeatsEnd() {
        for (int m = 0; m <= 9; m++) {
            PathDesk desk = row();
            for (int n = Math.max(m, 1); n <= 9; n++) {
                String text = "a{" + m + "," + n + "}";
                reached(desk, text, 0, nodesFrom(m, n));
                reached(desk, text, 31 - n, nodesFrom(31 - n + m, 31));
                reached(desk, text, 32 - n, nodesFrom(32 - n + m, 31));
                reached(desk, text, 31, m == 0 ? 1 << 31 : 0);
            }
            if (m > 0) {
                reached(desk, "a{" + m + "}", 0, 1 << m);
                reached(desk, "a{" + m + "}", 31 - m, 1 << 31);
                reached(desk, "a{" + m + "}", 32 - m, 0);
            }
        }
    }

    private static void countedGroupsEnd() {
        PathDesk desk = row();
        reached(desk, "(aa|aaa){2}", 0, nodesFrom(4, 6));
        reached(desk, "(aa){0,9}", 20, Check.nodes(20, 22, 24, 26, 28, 30));
        reached(desk, "a{5}{6}a", 0, 1 << 31);
        reached(desk, "a{5}{6}aa", 0, 0);
        reached(desk, "a?{9}", 0, nodesFrom(0, 9));
        reached(desk, "a*{9}", 3, nodesFrom(3, 31));
        reached(desk, "a+{9}", 3, nodesFrom(12, 31));
        reached(desk, "a+{9}", 22, 1 << 31);
        reached(desk, "a+{9}", 23, 0);
        reached(desk, "b{0,9}", 3, 1 << 3);
        reached(desk, "b{1,9}", 3, 0);
        reached(desk, "(){9}{9}", 3, 1 << 3);
        desk.edge(31, 0, 0);
        reached(desk, "a{9}{8}a{8}", 0, 1 << 16);
        Check.due("80 steps are 80 edges", 80, () -> desk.distance(0, 0, 16));
    }

    /** Terms: at most 10 of which are open at once. */
    private static void tenGroupsMatch() {
        PathDesk desk = row();
        reached(desk, "(".repeat(10) + "a" + ")".repeat(10), 0, 2);
        reached(desk, "a(".repeat(10) + "a" + ")".repeat(10), 0, 1 << 11);
        reached(desk, "a|b|(".repeat(10) + "a{9}" + ")".repeat(10), 0, Check.nodes(1, 9));
        reached(desk, "a(b|".repeat(10) + "a{2,3}" + ")".repeat(10), 0, Check.nodes(12, 13));
        reached(desk, "(a".repeat(10) + ")?".repeat(10), 0, nodesFrom(0, 10));
        reached(desk, "(a".repeat(10) + ")*".repeat(10), 0, ALL);
        reached(desk, "(a".repeat(4) + "(".repeat(6) + "a" + ")".repeat(6) + "){2}".repeat(4), 0, 0);
        reached(desk, "(a".repeat(3) + "(".repeat(7) + "a" + ")".repeat(7) + "){2}".repeat(3), 0, 1 << 22);
    }

    /** Terms: by the edges and tags that are there when it is asked. */
    private static void relationsFollowTheStore() {
        PathDesk desk = new PathDesk();
        for (int slot = 0; slot < 4; slot++) {
            load(desk, slot, "a[0]");
        }
        for (int turn = 0; turn < 3; turn++) {
            pairsOfAll("no edge, no tag", desk, 0);
            desk.edge(0, 0, 31);
            pairsOfAll("an edge, no tag", desk, 0);
            desk.tag(31, 0, true);
            pairsOfAll("an edge and a tag", desk, 1);
            desk.edge(31, 0, 31);
            pairsOfAll("two edges", desk, 2);
            desk.tag(31, 0, false);
            pairsOfAll("no tag any more", desk, 0);
            desk.tag(31, 0, true);
            desk.cut(31, 0, 31);
            pairsOfAll("one edge", desk, 1);
            desk.cut(0, 0, 31);
            desk.tag(31, 0, false);
        }
        PathDesk full = States.full();
        full.load(0);
        load(full, 0, ".");
        int pairs = full.pairs(0, 0, 0);
        States.putEdge(full, 300);
        Check.due("the 301st is no edge", pairs, () -> full.pairs(0, 0, 0));
        States.cutEdge(full, 299);
        int less = full.pairs(0, 0, 0);
        States.putEdge(full, 299);
        Check.due("one that was cut is none", true, less == pairs - 1 && full.pairs(0, 0, 0) == pairs);
    }

    private static void pairsOfAll(String when, PathDesk desk, int due) {
        for (int s = 0; s < 4; s++) {
            int slot = s;
            Check.due(when + ", slot " + s, due, () -> desk.pairs(slot, slot, 0));
        }
    }

    /** Promise 7: the nodes that a node has pairs with, as bits; backwards: those that have pairs with it. */
    private static void reachOfEachNode() {
        for (int s : new int[] {0, 3}) {
            PathDesk desk = ring();
            load(desk, s, "a");
            for (int n = 0; n < 32; n++) {
                int node = n;
                Check.due("from " + n, 1 << (n + 1) % 32, () -> desk.reach(s, node, false));
                Check.due("to " + n, 1 << (n + 31) % 32, () -> desk.reach(s, node, true));
            }
        }
    }

    private static void reachOfNoneAndAll() {
        PathDesk desk = row();
        load(desk, 0, "a");
        Check.due("none from the last", 0, () -> desk.reach(0, 31, false));
        Check.due("none to the first", 0, () -> desk.reach(0, 0, true));
        Check.due("the last, as the highest bit", Integer.MIN_VALUE, () -> desk.reach(0, 30, false));
        Check.due("the first, as the lowest bit", 1, () -> desk.reach(0, 1, true));
        load(desk, 0, "a*");
        Check.due("all from the first", ALL, () -> desk.reach(0, 0, false));
        Check.due("all to the last", ALL, () -> desk.reach(0, 31, true));
        Check.due("one from the last", Integer.MIN_VALUE, () -> desk.reach(0, 31, false));
        Check.due("one to the first", 1, () -> desk.reach(0, 0, true));
        load(desk, 0, "a+");
        Check.due("all but one from the first", ALL - 1, () -> desk.reach(0, 0, false));
        Check.due("all but one to the last", Integer.MAX_VALUE, () -> desk.reach(0, 31, true));
    }

    /** Promise 7: IndexOutOfBoundsException when there is no such slot; else IllegalArgumentException. */
    private static void reachThrows() {
        for (boolean backwards : new boolean[] {false, true}) {
            for (int slot : States.NO_SLOTS) {
                for (int node : SOME_NODES) {
                    States.noIndex("reach of slot " + slot + ", node " + node,
                            desk -> desk.reach(slot, node, backwards));
                }
            }
            for (int node : States.NO_NODES) {
                for (int slot = 0; slot < 4; slot++) {
                    int asked = slot;
                    States.noArgument("reach of slot " + slot + ", node " + node,
                            desk -> desk.reach(asked, node, backwards));
                }
            }
        }
    }

    /** Promise 8: NONE when there is none; Terms: a path is a node, or nodes with edges between. */
    private static void distanceEnds() {
        for (int s : new int[] {0, 3}) {
            PathDesk desk = row();
            load(desk, s, "a*");
            for (int n = 0; n < 32; n++) {
                int node = n;
                Check.due("0 to " + n, n, () -> desk.distance(s, 0, node));
                Check.due(n + " to 31", 31 - n, () -> desk.distance(s, node, 31));
                Check.due(n + " to itself", 0, () -> desk.distance(s, node, node));
                Check.due("31 to " + n, n == 31 ? 0 : PathDesk.NONE, () -> desk.distance(s, 31, node));
                Check.due(n + " to 0", n == 0 ? 0 : PathDesk.NONE, () -> desk.distance(s, node, 0));
            }
            load(desk, s, "a+");
            Check.due("none to itself", PathDesk.NONE, () -> desk.distance(s, 0, 0));
            Check.due("one to the next", 1, () -> desk.distance(s, 30, 31));
        }
        PathDesk none = new PathDesk();
        load(none, 0, ".*");
        Check.due("no edges: to itself", 0, () -> none.distance(0, 31, 31));
        Check.due("no edges: to another", PathDesk.NONE, () -> none.distance(0, 31, 0));
    }

    private static void distanceIsTheShortest() {
        PathDesk desk = ring();
        load(desk, 0, "(a{9}{8}a{7})+");
        Check.due("79 edges, 32 times", 32 * 79, () -> desk.distance(0, 31, 31));
        load(desk, 0, "a{9}{4}|a{4}");
        Check.due("the shorter row", 4, () -> desk.distance(0, 0, 4));
        load(desk, 0, "a{4}|a{9}{4}");
        Check.due("the shorter row, first", 4, () -> desk.distance(0, 0, 4));
        load(desk, 0, "a{9}{3}a{5}|");
        Check.due("no edge is shorter", 0, () -> desk.distance(0, 0, 0));
        load(desk, 0, "(a|^a)+");
        Check.due("half round", 16, () -> desk.distance(0, 0, 16));
        Check.due("there and back", 2, () -> desk.distance(0, 31, 31));
        desk.edge(31, 7, 31);
        load(desk, 0, "(a|^a|h)+");
        Check.due("one edge to itself", 1, () -> desk.distance(0, 31, 31));
    }

    /** Promise 8: throws as reach. */
    private static void distanceThrows() {
        for (int slot : States.NO_SLOTS) {
            for (int node : SOME_NODES) {
                States.noIndex("distance of slot " + slot + " from " + node, desk -> desk.distance(slot, node, 0));
                States.noIndex("distance of slot " + slot + " to " + node, desk -> desk.distance(slot, 31, node));
            }
        }
        for (int node : States.NO_NODES) {
            for (int slot = 0; slot < 4; slot++) {
                int asked = slot;
                States.noArgument("distance from " + node, desk -> desk.distance(asked, node, 0));
                States.noArgument("distance to " + node, desk -> desk.distance(asked, 31, node));
                States.noArgument("distance from and to " + node, desk -> desk.distance(asked, node, node));
            }
        }
    }

    private static void spanned(PathDesk desk, int slot, String text, int due) {
        load(desk, slot, text);
        Check.due("span of " + text, due, () -> desk.span(slot));
    }

    /** Promise 9: the greatest distance of all pairs; NONE when there are none. */
    private static void spanEnds() {
        for (int slot : new int[] {0, 3}) {
            PathDesk desk = row();
            spanned(desk, slot, "b", PathDesk.NONE);
            spanned(desk, slot, "[0]", PathDesk.NONE);
            spanned(desk, slot, "", 0);
            spanned(desk, slot, "[!0]", 0);
            spanned(desk, slot, "b?", 0);
            spanned(desk, slot, "a", 1);
            spanned(desk, slot, "a?", 1);
            spanned(desk, slot, "a*", 31);
            spanned(desk, slot, "^a*", 31);
            spanned(desk, slot, "a{9}{3}a{4}", 31);
            spanned(desk, slot, "a{9}{3}a{5}", PathDesk.NONE);
            desk.edge(31, 0, 0);
            spanned(desk, slot, "a*", 31);
            spanned(desk, slot, "a+", 32);
            spanned(desk, slot, "a{9}{8}a{8}", 80);
            spanned(desk, slot, "(a{9}{8}a{7})+", 32 * 79);
            spanned(new PathDesk(), slot, ".+", PathDesk.NONE);
            spanned(new PathDesk(), slot, ".*", 0);
        }
    }

    /** Promise 10 with a slot without pairs, one of each node with itself, one of all pairs, one of the ring. */
    private static void pairsEnd() {
        PathDesk desk = ring();
        String[] told = {"b", "", "a*", "a"};
        for (int slot = 0; slot < 4; slot++) {
            load(desk, slot, told[slot]);
        }
        int[][][] due = {
            {{0, 0, 0, 0}, {32, 32, 32, 32}, {1024, 1024, 1024, 1024}, {32, 32, 32, 32}},
            {{0, 0, 0, 0}, {0, 32, 32, 0}, {0, 32, 1024, 32}, {0, 0, 32, 32}},
            {{0, 0, 0, 0}, {32, 0, 0, 32}, {1024, 992, 0, 992}, {32, 32, 0, 0}},
            {{0, 0, 0, 0}, {0, 32, 32, 0}, {0, 32, 1024, 32}, {0, 0, 32, 0}},
            {{0, 0, 0, 0}, {0, 32, 1024, 32}, {0, 1024, 1024, 1024}, {0, 32, 1024, 32}},
        };
        for (int how = 0; how <= 4; how++) {
            for (int slot = 0; slot < 4; slot++) {
                for (int other = 0; other < 4; other++) {
                    int[] asked = {slot, other, how};
                    Check.due("pairs(" + slot + ", " + other + ", " + how + ")", due[how][slot][other],
                            () -> desk.pairs(asked[0], asked[1], asked[2]));
                }
            }
        }
    }

    /** Promise 10, how = 4: pairs of the first and the last node, however many nodes lie between. */
    private static void pairsCountOnce() {
        PathDesk desk = new PathDesk();
        for (int node = 0; node < 32; node++) {
            desk.edge(0, 0, node);
            desk.edge(node, 1, 31);
        }
        load(desk, 0, "a");
        load(desk, 1, "b");
        Check.due("by way of all nodes", 1, () -> desk.pairs(0, 1, 4));
        Check.due("by way of one node", 32, () -> desk.pairs(1, 1, 4));
        Check.due("an empty row leads on to where one is", 32, () -> desk.pairs(1, 2, 4));
        desk.cut(31, 1, 31);
        desk.cut(0, 1, 31);
        desk.edge(31, 1, 30);
        Check.due("by way of 31, and once of 30", 31, () -> desk.pairs(1, 1, 4));
        desk.edge(0, 2, 31);
        load(desk, 2, "a|b|c");
        Check.due("a pair by two labels", 32 + 31, () -> desk.pairs(2, 2, 0));
        load(desk, 3, "a|c");
        Check.due("the same by one label and by two", 32, () -> desk.pairs(0, 3, 1));
        Check.due("none is missing", 0, () -> desk.pairs(3, 0, 2));
    }

    private static void pairsOfOneSlot() {
        PathDesk desk = row();
        desk.edge(31, 0, 31);
        for (int s : new int[] {0, 3}) {
            load(desk, s, "a");
            int[] due = {32, 32, 0, 1, 32};
            for (int how = 0; how <= 4; how++) {
                int asked = how;
                Check.due("pairs with itself by " + how, due[how], () -> desk.pairs(s, s, asked));
            }
        }
    }

    /** Promise 10: IndexOutOfBoundsException when one of both slots is not there; else IllegalArgumentException. */
    private static void pairsThrow() {
        for (int slot : States.NO_SLOTS) {
            for (int how : new int[] {-1, 0, 1, 2, 3, 4, 5}) {
                States.noIndex("pairs of slot " + slot + " by " + how, desk -> desk.pairs(slot, 0, how));
                States.noIndex("pairs with slot " + slot + " by " + how, desk -> desk.pairs(3, slot, how));
                States.noIndex("pairs of and with slot " + slot + " by " + how, desk -> desk.pairs(slot, slot, how));
            }
        }
        for (int how : NO_HOWS) {
            for (int slot = 0; slot < 4; slot++) {
                int asked = slot;
                States.noArgument("pairs by " + how, desk -> desk.pairs(asked, 3 - asked, how));
            }
        }
    }

    private static void circled(PathDesk desk, int slot, String text, int due) {
        load(desk, slot, text);
        Check.due("circle of " + text, due, () -> desk.circle(slot));
    }

    /** Promise 11: the least node that has a pair with itself; NONE without one. */
    private static void circleEnds() {
        for (int slot : new int[] {0, 3}) {
            PathDesk desk = row();
            circled(desk, slot, "b", PathDesk.NONE);
            circled(desk, slot, "a", PathDesk.NONE);
            circled(desk, slot, "a+", PathDesk.NONE);
            circled(desk, slot, "", 0);
            desk.edge(31, 0, 31);
            circled(desk, slot, "a+", 31);
            desk.edge(30, 0, 30);
            circled(desk, slot, "a", 30);
            desk.edge(0, 0, 0);
            circled(desk, slot, "a", 0);
            desk.cut(0, 0, 0);
            circled(desk, slot, "a", 30);
            desk.tag(31, 0, true);
            circled(desk, slot, "[0]", 31);
            circled(desk, slot, "[0]a", 31);
            circled(desk, slot, "a[0]^a", 30);
            circled(new PathDesk(), slot, ".+", PathDesk.NONE);
        }
        PathDesk round = ring();
        circled(round, 0, "a{9}{3}a{4}", PathDesk.NONE);
        circled(round, 0, "a{9}{3}a{5}", 0);
        circled(round, 0, "a{9}{3}a{6}", PathDesk.NONE);
    }

    private static void bestOf(PathDesk desk, int slot, String text, int due) {
        load(desk, slot, text);
        Check.due("best of " + text, due, () -> desk.best(slot));
    }

    /** Promise 12: of those that have pairs the one that has the most, going out; NONE without one. */
    private static void bestEnds() {
        for (int slot : new int[] {0, 3}) {
            PathDesk desk = new PathDesk();
            bestOf(desk, slot, ".", PathDesk.NONE);
            bestOf(desk, slot, "", 0);
            desk.edge(31, 7, 31);
            bestOf(desk, slot, "h", 31);
            bestOf(desk, slot, "a", PathDesk.NONE);
            for (int to = 0; to < 31; to++) {
                desk.edge(31, 7, to);
                desk.edge(30, 7, to);
            }
            bestOf(desk, slot, "h", 31);
            bestOf(desk, slot, "^h", 0);
            desk.edge(30, 7, 31);
            bestOf(desk, slot, "h", 30);
            desk.cut(30, 7, 0);
            bestOf(desk, slot, "h", 31);
            PathDesk row = row();
            bestOf(row, slot, "a*", 0);
            bestOf(row, slot, "^a*", 31);
        }
    }

    /** Promise 12: the lowest of these. */
    private static void bestOfEqualOnes() {
        PathDesk desk = new PathDesk();
        load(desk, 0, "a");
        for (int n = 31; n >= 0; n--) {
            int node = n;
            desk.edge(node, 0, 31 - node);
            Check.due("one pair each, from " + n, node, () -> desk.best(0));
        }
        for (int n = 31; n >= 0; n--) {
            int node = n;
            desk.edge(node, 0, (32 - node) % 32);
            Check.due("two pairs each, from " + n, node, () -> desk.best(0));
        }
        desk.edge(31, 1, 0);
        desk.edge(31, 1, 1);
        load(desk, 0, "a|b");
        Check.due("a pair by two labels is one", 0, () -> desk.best(0));
    }

    /** Promises 9, 11 and 12: IndexOutOfBoundsException when there is no such slot. */
    private static void spanCircleAndBestThrow() {
        for (int slot : States.NO_SLOTS) {
            States.noIndex("span of slot " + slot, desk -> desk.span(slot));
            States.noIndex("circle of slot " + slot, desk -> desk.circle(slot));
            States.noIndex("best of slot " + slot, desk -> desk.best(slot));
        }
    }

    /** Terms: slots 0 .. 3 have an expression each. */
    private static void slotsAreApart() {
        PathDesk desk = row();
        desk.tag(31, 0, true);
        String[] told = {"a{2}", "^a{3}", "a*[0]", "[0]"};
        int[] pairs = {30, 29, 32, 1};
        int[] span = {2, 3, 31, 0};
        int[] circle = {-1, -1, 31, 31};
        int[] best = {0, 3, 0, 31};
        int[] distance = {-1, -1, 31, -1};
        for (int slot = 0; slot < 4; slot++) {
            load(desk, slot, told[slot]);
        }
        for (int s = 0; s < 4; s++) {
            int slot = s;
            Check.due("pairs of " + s, pairs[s], () -> desk.pairs(slot, 3 - slot, 0));
            Check.due("span of " + s, span[s], () -> desk.span(slot));
            Check.due("circle of " + s, circle[s], () -> desk.circle(slot));
            Check.due("best of " + s, best[s], () -> desk.best(slot));
            Check.due("distance of " + s, distance[s], () -> desk.distance(slot, 0, 31));
            Check.due("steps of " + s, new int[] {2, 3, 2, 1}[s], () -> desk.count(2 + slot));
        }
    }

    /** A question that is answered leaves no trace either. */
    private static void questionsChangeNothing() {
        States.noTrace("reach", "" + Check.nodes(0, 31), States::corners, desk -> desk.reach(0, 0, false));
        States.noTrace("reach to", "" + Check.nodes(0, 31), States::corners, desk -> desk.reach(1, 31, true));
        States.noTrace("distance", "1", States::corners, desk -> desk.distance(0, 31, 0));
        States.noTrace("span", "1", States::corners, desk -> desk.span(1));
        for (int how = 0; how <= 4; how++) {
            int asked = how;
            String due = new String[] {"4", "4", "0", "4", "4"}[how];
            States.noTrace("pairs by " + how, due, States::corners, desk -> desk.pairs(0, 1, asked));
        }
        States.noTrace("circle", "0", States::corners, desk -> desk.circle(2));
        States.noTrace("best", "0", States::corners, desk -> desk.best(2));
    }
}
