/** Promises 1 to 4 and 13 with ordinary calls: a new object, edge, cut, tag, count. */
public final class StoreTest {
    private StoreTest() {
    }

    public static void main(String[] args) {
        edgeComes();
        cutTakesAway();
        tagGoesOnAndOff();
        countTellsAll();
        objectsAreApart();
        Check.end();
    }

    /** Promise 2. */
    private static void edgeComes() {
        PathDesk desk = new PathDesk();
        Check.due("edge(0, a, 1)", true, desk.edge(0, 0, 1));
        Check.due("edge(0, a, 1) again", false, desk.edge(0, 0, 1));
        Check.due("edge(1, a, 0), the other way", true, desk.edge(1, 0, 0));
        Check.due("edge(0, h, 1), another label", true, desk.edge(0, 7, 1));
        Check.due("edge(31, h, 31), the last of all", true, desk.edge(31, 7, 31));
        Check.due("edge(31, h, 31) again", false, desk.edge(31, 7, 31));
        Check.due("edges", 4, () -> desk.count(0));
        Check.load(desk, 0, "a");
        Check.due("a from 0", Check.nodes(1), () -> desk.reach(0, 0, false));
        Check.load(desk, 0, "h");
        Check.due("h from 31", Check.nodes(31), () -> desk.reach(0, 31, false));
    }

    /** Promise 3. */
    private static void cutTakesAway() {
        PathDesk desk = new PathDesk();
        desk.edge(3, 2, 4);
        desk.edge(3, 2, 5);
        Check.load(desk, 1, "c");
        Check.due("ahead of the cut", Check.nodes(4, 5), () -> desk.reach(1, 3, false));
        Check.due("cut of the turned edge", false, desk.cut(4, 2, 3));
        Check.due("cut by another label", false, desk.cut(3, 1, 4));
        Check.due("cut", true, desk.cut(3, 2, 4));
        Check.due("cut again", false, desk.cut(3, 2, 4));
        Check.due("edges after the cut", 1, () -> desk.count(0));
        Check.due("after the cut", Check.nodes(5), () -> desk.reach(1, 3, false));
        Check.due("it comes again", true, desk.edge(3, 2, 4));
        Check.due("as before", Check.nodes(4, 5), () -> desk.reach(1, 3, false));
    }

    /** Promise 4. */
    private static void tagGoesOnAndOff() {
        PathDesk desk = new PathDesk();
        Check.load(desk, 0, "[3]");
        Check.load(desk, 1, "[!3]");
        Check.due("[3] of none", 0, () -> desk.pairs(0, 0, 0));
        desk.tag(31, 3, true);
        desk.tag(0, 3, true);
        desk.tag(0, 3, true);
        desk.tag(0, 2, true);
        Check.due("nodes with tag 3", 2, () -> desk.count(17));
        Check.due("nodes with tag 2", 1, () -> desk.count(16));
        Check.due("[3] of two", 2, () -> desk.pairs(0, 0, 0));
        Check.due("[!3] of thirty", 30, () -> desk.pairs(1, 0, 0));
        Check.due("[3] at 31", Check.nodes(31), () -> desk.reach(0, 31, false));
        desk.tag(31, 3, false);
        desk.tag(31, 3, false);
        desk.tag(5, 3, false);
        Check.due("[3] of one", 1, () -> desk.pairs(0, 0, 0));
        Check.due("[3] at 31, gone", 0, () -> desk.reach(0, 31, false));
        Check.due("tag 2 stays", 1, () -> desk.count(16));
    }

    /** Promise 13. */
    private static void countTellsAll() {
        PathDesk desk = new PathDesk();
        for (int label = 0; label < 8; label++) {
            for (int to = 0; to <= label; to++) {
                desk.edge(label, label, to);
            }
        }
        for (int tag = 0; tag < 4; tag++) {
            for (int node = 0; node < 2 + tag; node++) {
                desk.tag(30 - node, tag, true);
            }
        }
        String[] told = {"a", "ab", "abc{8}", "^a[!0].[1](a|b)*^."};
        int[] steps = {1, 2, 10, 7};
        for (int slot = 0; slot < 4; slot++) {
            Check.load(desk, slot, told[slot]);
        }
        Check.feed(desk, "waiting");
        Check.due("edges", 36, () -> desk.count(0));
        Check.due("characters", 7, () -> desk.count(1));
        for (int i = 0; i < 8; i++) {
            int at = i;
            Check.due("edges of label " + i, i + 1, () -> desk.count(6 + at));
        }
        for (int i = 0; i < 4; i++) {
            int at = i;
            Check.due("steps of slot " + i, steps[i], () -> desk.count(2 + at));
            Check.due("nodes with tag " + i, 2 + i, () -> desk.count(14 + at));
        }
    }

    /** Promise 1. */
    private static void objectsAreApart() {
        PathDesk one = new PathDesk();
        PathDesk other = new PathDesk();
        one.edge(0, 0, 1);
        one.tag(0, 0, true);
        Check.load(one, 0, "a");
        Check.feed(one, "b");
        for (int what = 0; what < 18; what++) {
            int asked = what;
            Check.due("another object's count(" + what + ")", 0, () -> other.count(asked));
        }
    }
}
