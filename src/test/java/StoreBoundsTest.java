/** Promises 1 to 4 and 13 at the bounds that the document names: nodes, labels, edges, tags. */
public final class StoreBoundsTest {
    private static final int[] END_NODES = {0, 31};
    private static final int[] END_LABELS = {0, 7};
    private static final int[] END_TAGS = {0, 3};
    private static final int NO_NODE = -1;

    private StoreBoundsTest() {
    }

    public static void main(String[] args) {
        newObjectHasNothing();
        newSlotsAreEmptyRows();
        edgeComesAtTheEnds();
        edgeComesForEachNodeAndLabel();
        edgeComesOnce();
        edgesEndAt300();
        edgesEndAt300ByOneLabel();
        refusedEdgesTakeNoRoom();
        roomComesAgainAndAgain();
        edgeThrows();
        cutGoesAtTheEnds();
        cutTakesTheLastEdge();
        cutOfNone();
        cutThrows();
        tagAtTheEnds();
        tagOfNoneAndAll();
        tagTwice();
        tagThrows();
        countEnds();
        countChangesNothing();
        countsAtTheirMost();
        Check.end();
    }

    /** Promise 1: no edges, no tags, no characters. */
    private static void newObjectHasNothing() {
        PathDesk desk = new PathDesk();
        for (int what = 0; what < 18; what++) {
            int asked = what;
            Check.due("new: count(" + what + ")", 0, () -> desk.count(asked));
        }
        Check.due("NONE", -1, () -> PathDesk.NONE);
        Check.due("new: load of no characters", 0, () -> desk.load(0));
        Check.due("new: the first character", 1, () -> desk.feed('|', 1));
        Check.due("new: it alone is there", 0, () -> desk.load(0));
        Check.due("new: two empty rows", 32, () -> desk.pairs(0, 0, 0));
        Check.load(desk, 0, ".|^.");
        Check.due("new: no edges", 0, () -> desk.pairs(0, 0, 0));
        Check.load(desk, 0, "[0]|[1]|[2]|[3]");
        Check.due("new: no tags", 0, () -> desk.pairs(0, 0, 0));
        Check.load(desk, 0, "[!0][!1][!2][!3]");
        Check.due("new: no tags on any", 32, () -> desk.pairs(0, 0, 0));
    }

    /** Promise 1: empty rows. Terms: slots have an expression each, at first an empty row. */
    private static void newSlotsAreEmptyRows() {
        for (int slot = 0; slot < 4; slot++) {
            Check.emptyRow("new", new PathDesk(), slot);
        }
        PathDesk desk = States.full();
        Check.due("an empty row takes no edges", 32, () -> desk.pairs(3, 3, 0));
    }

    /** Promise 2: an edge comes. */
    private static void edgeComesAtTheEnds() {
        for (int from : END_NODES) {
            for (int label : END_LABELS) {
                for (int to : END_NODES) {
                    edgeComesAlone(from, label, to);
                }
            }
        }
    }

    private static void edgeComesAlone(int from, int label, int to) {
        PathDesk desk = new PathDesk();
        String edge = "edge(" + from + ", " + label + ", " + to + ")";
        Check.due(edge, true, desk.edge(from, label, to));
        Check.due("edges after " + edge, 1, () -> desk.count(0));
        for (int l = 0; l < 8; l++) {
            int asked = l;
            int due = l == label ? 1 : 0;
            Check.due("edges of label " + l + " after " + edge, due, () -> desk.count(6 + asked));
            Check.load(desk, 0, "" + (char) ('a' + l));
            Check.due("pairs of label " + l + " after " + edge, due, () -> desk.pairs(0, 0, 0));
        }
        Check.load(desk, 0, ".");
        Check.due("pairs after " + edge, 1, () -> desk.pairs(0, 0, 0));
        Check.due("reach after " + edge, 1 << to, () -> desk.reach(0, from, false));
    }

    private static void edgeComesForEachNodeAndLabel() {
        for (int label = 0; label < 8; label++) {
            PathDesk desk = new PathDesk();
            Check.load(desk, 0, "" + (char) ('a' + label));
            for (int n = 0; n < 32; n++) {
                int node = n;
                Check.due("edge of " + node + " by " + label, true, desk.edge(node, label, 31 - node));
                Check.due("from " + node + " by " + label, 1 << (31 - node), () -> desk.reach(0, node, false));
            }
            Check.due("all of them", 32, () -> desk.pairs(0, 0, 0));
        }
    }

    /** Promise 2: false when it is there. Terms: each at most once. */
    private static void edgeComesOnce() {
        for (int from : END_NODES) {
            for (int label : END_LABELS) {
                for (int to : END_NODES) {
                    States.noTrace("an edge that is there", "0", States::corners,
                            desk -> Check.bit(desk.edge(from, label, to)));
                }
            }
        }
        States.noTrace("the first of 300", "0", States::full, desk -> Check.bit(States.putEdge(desk, 0)));
        States.noTrace("the last of 300", "0", States::full, desk -> Check.bit(States.putEdge(desk, 299)));
        PathDesk desk = States.corners();
        Check.due("another from", true, desk.edge(1, 0, 0));
        Check.due("another to", true, desk.edge(0, 0, 1));
        Check.due("another label", true, desk.edge(0, 2, 0));
        Check.due("the other way round", true, desk.edge(1, 2, 0) && desk.edge(0, 2, 1));
    }

    /** Promise 2: false when there are 300. Terms: at most 300 in all. */
    private static void edgesEndAt300() {
        PathDesk desk = new PathDesk();
        for (int i = 0; i < 299; i++) {
            Check.due("edge " + i, true, States.putEdge(desk, i));
        }
        Check.due("edges below the limit", 299, () -> desk.count(0));
        Check.due("the 300th", true, States.putEdge(desk, 299));
        Check.due("edges at the limit", 300, () -> desk.count(0));
        Check.due("the 301st", false, States.putEdge(desk, 300));
        Check.due("edges behind the limit", 300, () -> desk.count(0));
        States.noTrace("the 301st", "0", States::full, other -> Check.bit(States.putEdge(other, 300)));
        States.noTrace("another one", "0", States::full, other -> Check.bit(other.edge(31, 7, 31)));
    }

    private static void edgesEndAt300ByOneLabel() {
        PathDesk desk = new PathDesk();
        for (int i = 0; i < 300; i++) {
            Check.due("edge " + i + " of h", true, desk.edge(i / 32, 7, i % 32));
        }
        Check.due("the 301st by the same label", false, desk.edge(31, 7, 31));
        Check.due("the 301st by another label", false, desk.edge(31, 0, 31));
        Check.due("edges of h", 300, () -> desk.count(13));
        Check.due("edges of a", 0, () -> desk.count(6));
        Check.load(desk, 0, "h");
        Check.due("pairs of h", 300, () -> desk.pairs(0, 0, 0));
    }

    private static void refusedEdgesTakeNoRoom() {
        PathDesk desk = new PathDesk();
        for (int i = 0; i < 299; i++) {
            States.putEdge(desk, i);
        }
        Check.due("one that is there", false, States.putEdge(desk, 298));
        Check.noArgument("one by no label", () -> Check.bit(desk.edge(0, 8, 0)));
        Check.due("a cut of none", false, States.cutEdge(desk, 299));
        Check.due("the 300th", true, States.putEdge(desk, 299));
        Check.due("the 301st", false, States.putEdge(desk, 300));
    }

    private static void roomComesAgainAndAgain() {
        PathDesk desk = new PathDesk();
        for (int i = 0; i < 299; i++) {
            States.putEdge(desk, i);
        }
        for (int i = 299; i < 350; i++) {
            Check.due("the 300th is edge " + i, true, States.putEdge(desk, i));
            Check.due("no room for the next", false, States.putEdge(desk, i + 1));
            Check.due("a cut makes room", true, States.cutEdge(desk, i - 1));
        }
        Check.due("edges in the end", 299, () -> desk.count(0));
    }

    /** Promise 2: IllegalArgumentException when a node or label is not there. */
    private static void edgeThrows() {
        for (int node : States.NO_NODES) {
            States.noArgument("edge from " + node, desk -> Check.bit(desk.edge(node, 0, 0)));
            States.noArgument("edge to " + node, desk -> Check.bit(desk.edge(0, 0, node)));
            States.noArgument("edge from and to " + node, desk -> Check.bit(desk.edge(node, 7, node)));
        }
        for (int label : States.NO_LABELS) {
            States.noArgument("edge by " + label, desk -> Check.bit(desk.edge(0, label, 0)));
            States.noArgument("edge of 31 by " + label, desk -> Check.bit(desk.edge(31, label, 31)));
            States.noArgument("edge all wrong", desk -> Check.bit(desk.edge(label - 32, label, label - 32)));
        }
    }

    /** Promise 3: an edge goes: whether it was there. */
    private static void cutGoesAtTheEnds() {
        for (int from : END_NODES) {
            for (int label : END_LABELS) {
                for (int to : END_NODES) {
                    cutGoesAlone(from, label, to);
                }
            }
        }
    }

    private static void cutGoesAlone(int from, int label, int to) {
        PathDesk desk = States.corners();
        String cut = "cut(" + from + ", " + label + ", " + to + ")";
        Check.due(cut, true, desk.cut(from, label, to));
        Check.due("edges after " + cut, 15, () -> desk.count(0));
        for (int other : END_LABELS) {
            int due = other == label ? 3 : 4;
            Check.due("edges of " + other + " after " + cut, due, () -> desk.count(6 + other));
            desk.load(0);
            Check.load(desk, 0, "" + (char) ('a' + other));
            Check.due("pairs of " + other + " after " + cut, due, () -> desk.pairs(0, 0, 0));
            Check.due("reach of " + other + " after " + cut, Check.nodes(0, 31) - (due == 3 ? 1 << to : 0),
                    () -> desk.reach(0, from, false));
        }
        Check.due(cut + " again", false, desk.cut(from, label, to));
        Check.due("edges after both", 15, () -> desk.count(0));
    }

    private static void cutTakesTheLastEdge() {
        PathDesk desk = new PathDesk();
        for (int i = 0; i < 200; i++) {
            States.putEdge(desk, i);
        }
        for (int i = 0; i < 200; i++) {
            Check.due("cut " + i, true, States.cutEdge(desk, i));
        }
        for (int what = 0; what < 14; what++) {
            int asked = what;
            Check.due("no edge is left: count(" + what + ")", 0, () -> desk.count(asked));
        }
        Check.due("cut of what went", false, States.cutEdge(desk, 199));
        Check.due("edges are not below 0", 0, () -> desk.count(0));
        Check.due("it comes again", true, States.putEdge(desk, 199));
        PathDesk full = States.full();
        Check.due("cut of 300", true, States.cutEdge(full, 299));
        Check.due("299 are left", 299, () -> full.count(0));
    }

    /** Promise 3: false when the edge was not there. */
    private static void cutOfNone() {
        States.noTrace("cut of none", "0", States::empty, desk -> Check.bit(desk.cut(0, 0, 0)));
        States.noTrace("cut of none at the end", "0", States::empty, desk -> Check.bit(desk.cut(31, 7, 31)));
        States.noTrace("cut of another from", "0", States::corners, desk -> Check.bit(desk.cut(1, 0, 0)));
        States.noTrace("cut of another to", "0", States::corners, desk -> Check.bit(desk.cut(31, 7, 30)));
        States.noTrace("cut of another label", "0", States::corners, desk -> Check.bit(desk.cut(0, 2, 0)));
        States.noTrace("cut of the 301st", "0", States::full, desk -> Check.bit(States.cutEdge(desk, 300)));
    }

    /** Promise 3: throws as edge. */
    private static void cutThrows() {
        for (int node : States.NO_NODES) {
            States.noArgument("cut from " + node, desk -> Check.bit(desk.cut(node, 0, 0)));
            States.noArgument("cut to " + node, desk -> Check.bit(desk.cut(0, 0, node)));
            States.noArgument("cut from and to " + node, desk -> Check.bit(desk.cut(node, 7, node)));
        }
        for (int label : States.NO_LABELS) {
            States.noArgument("cut by " + label, desk -> Check.bit(desk.cut(0, label, 0)));
            States.noArgument("cut of 31 by " + label, desk -> Check.bit(desk.cut(31, label, 31)));
            States.noArgument("cut all wrong", desk -> Check.bit(desk.cut(label - 32, label, label - 32)));
        }
    }

    /** Promise 4: a node has a tag, or not any more. */
    private static void tagAtTheEnds() {
        for (int node : END_NODES) {
            for (int tag : END_TAGS) {
                PathDesk desk = new PathDesk();
                desk.tag(node, tag, true);
                seenTags("tag " + tag + " of " + node, desk, node, tag);
                desk.tag(node, tag, false);
                seenTags("no tag any more", desk, NO_NODE, tag);
            }
        }
    }

    /** One node has one tag, or none has any. */
    private static void seenTags(String what, PathDesk desk, int node, int tag) {
        for (int t = 0; t < 4; t++) {
            int asked = t;
            int due = node != NO_NODE && t == tag ? 1 : 0;
            Check.due(what + ": nodes with tag " + t, due, () -> desk.count(14 + asked));
            Check.load(desk, 0, "[" + t + "]");
            Check.due(what + ": pairs of [" + t + "]", due, () -> desk.pairs(0, 0, 0));
            Check.due(what + ": the node", due == 1 ? node : PathDesk.NONE, () -> desk.circle(0));
            Check.load(desk, 0, "[!" + t + "]");
            Check.due(what + ": pairs of [!" + t + "]", 32 - due, () -> desk.pairs(0, 0, 0));
        }
    }

    private static void tagOfNoneAndAll() {
        for (int t = 0; t < 4; t++) {
            int tag = t;
            PathDesk desk = new PathDesk();
            Check.load(desk, 0, "[" + tag + "]");
            Check.load(desk, 1, "[!" + tag + "]");
            for (int n = 0; n < 32; n++) {
                int node = n;
                Check.due("not yet: [" + tag + "] at " + node, 0, () -> desk.reach(0, node, false));
                desk.tag(node, tag, true);
                Check.due("[" + tag + "] at " + node, 1 << node, () -> desk.reach(0, node, false));
                Check.due("nodes with tag " + tag, node + 1, () -> desk.count(14 + tag));
            }
            Check.due("all have tag " + tag, 32, () -> desk.pairs(0, 0, 0));
            Check.due("none has not", 0, () -> desk.pairs(1, 1, 0));
            for (int node = 31; node >= 0; node--) {
                desk.tag(node, tag, false);
            }
            Check.due("none any more", 0, () -> desk.count(14 + tag));
            Check.due("all have not", 32, () -> desk.pairs(1, 1, 0));
        }
    }

    /** Promise 4 says no more than whether a node has a tag: once on is on, once off is off. */
    private static void tagTwice() {
        for (int node : END_NODES) {
            for (int tag : END_TAGS) {
                States.noTrace("a tag that is there", "0", States::corners, desk -> setTag(desk, node, tag, true));
                States.noTrace("a tag that is not", "0", States::empty, desk -> setTag(desk, node, tag, false));
            }
        }
    }

    /** Promise 4: IllegalArgumentException when one of both is not there. */
    private static void tagThrows() {
        for (boolean on : new boolean[] {true, false}) {
            for (int node : States.NO_NODES) {
                States.noArgument("tag 0 of " + node, desk -> setTag(desk, node, 0, on));
                States.noArgument("tag 3 of " + node, desk -> setTag(desk, node, 3, on));
                States.noArgument("both wrong, node " + node, desk -> setTag(desk, node, 4, on));
            }
            for (int tag : States.NO_TAGS) {
                States.noArgument("tag " + tag + " of 0", desk -> setTag(desk, 0, tag, on));
                States.noArgument("tag " + tag + " of 31", desk -> setTag(desk, 31, tag, on));
            }
        }
    }

    private static long setTag(PathDesk desk, int node, int tag, boolean on) {
        desk.tag(node, tag, on);
        return 0;
    }

    /** Promise 13: the first and the last what of each kind, and NONE for others. */
    private static void countEnds() {
        PathDesk desk = new PathDesk();
        for (int to = 0; to < 9; to++) {
            desk.edge(0, 0, to);
        }
        for (int to = 0; to < 8; to++) {
            desk.edge(0, 7, to);
        }
        for (int node = 0; node < 4; node++) {
            desk.tag(node, 3, true);
        }
        for (int node = 0; node < 5; node++) {
            desk.tag(node, 0, true);
        }
        Check.load(desk, 0, "aaa");
        Check.load(desk, 3, "aa");
        Check.feed(desk, "a");
        int[] due = {17, 1, 3, 0, 0, 2, 9, 0, 0, 0, 0, 0, 0, 8, 5, 0, 0, 4};
        for (int what = 0; what < 18; what++) {
            int asked = what;
            Check.due("count(" + what + ")", due[what], () -> desk.count(asked));
        }
        int[] others = {-1, -2, 18, 19, 20, 32, 256, -256, 1 << 16, Integer.MIN_VALUE, Integer.MAX_VALUE};
        for (int what : others) {
            for (Check.Call call : new Check.Call[] {() -> desk.count(what), () -> new PathDesk().count(what),
                () -> States.full().count(what)}) {
                Check.due("count(" + what + ")", PathDesk.NONE, call);
            }
        }
    }

    private static void countChangesNothing() {
        for (int what : new int[] {-1, 0, 17, 18}) {
            String due = what < 0 || what > 17 ? "-1" : "0";
            States.noTrace("count(" + what + ") of nothing", due, States::empty, desk -> desk.count(what));
        }
        States.noTrace("count(1) of 100", "100", States::full, desk -> desk.count(1));
        States.noTrace("count(18) of 300 edges", "-1", States::full, desk -> desk.count(18));
    }

    /** Promise 13 where each bound of the terms is met. */
    private static void countsAtTheirMost() {
        PathDesk desk = States.full();
        Check.due("edges", 300, () -> desk.count(0));
        Check.due("characters", 100, () -> desk.count(1));
        desk.load(0);
        for (int slot = 0; slot < 4; slot++) {
            int asked = slot;
            Check.load(desk, slot, "a{9}{8}[1]{8}");
            Check.due("steps of slot " + slot, 80, () -> desk.count(2 + asked));
        }
        for (int node = 0; node < 32; node++) {
            for (int tag = 0; tag < 4; tag++) {
                desk.tag(node, tag, true);
            }
        }
        for (int tag = 0; tag < 4; tag++) {
            int asked = tag;
            Check.due("nodes with tag " + tag, 32, () -> desk.count(14 + asked));
        }
        int sum = 0;
        for (int label = 0; label < 8; label++) {
            sum += desk.count(6 + label);
        }
        int all = sum;
        Check.due("edges of all labels", 300, () -> all);
    }
}
