import java.util.List;
import java.util.function.Supplier;

/** Objects at the bounds that the document names, and whether a refused call leaves a trace on them. */
final class States {
    /** The first ones that are not there, the last of all, and those that a mask or shift would bring back in. */
    static final int[] NO_NODES = {-1, 32, 33, 63, -32, -31, 256, 1 << 16, Integer.MIN_VALUE, Integer.MAX_VALUE};
    static final int[] NO_LABELS = {-1, 8, 9, 15, -8, -7, 256, 1 << 16, Integer.MIN_VALUE, Integer.MAX_VALUE};
    static final int[] NO_TAGS = {-1, 4, 5, 7, -4, -3, 256, 1 << 16, Integer.MIN_VALUE, Integer.MAX_VALUE};
    static final int[] NO_SLOTS = {-1, 4, 5, 7, -4, -3, 256, 1 << 16, Integer.MIN_VALUE, Integer.MAX_VALUE};

    private static final List<Supplier<PathDesk>> ALL = List.of(States::empty, States::corners, States::full);

    private States() {
    }

    /** A call on an object that is made for it. */
    interface CallOn {
        long answer(PathDesk desk);
    }

    static PathDesk empty() {
        return new PathDesk();
    }

    /** Edges and tags at the first and the last node, label and tag; four expressions; characters wait. */
    static PathDesk corners() {
        PathDesk desk = new PathDesk();
        for (int label : new int[] {0, 1, 6, 7}) {
            desk.edge(0, label, 0);
            desk.edge(0, label, 31);
            desk.edge(31, label, 0);
            desk.edge(31, label, 31);
        }
        for (int tag = 0; tag < 4; tag++) {
            desk.tag(0, tag, true);
            desk.tag(31, tag, true);
        }
        Check.load(desk, 0, "a|b");
        Check.load(desk, 1, "^g|h");
        Check.load(desk, 2, "[0]|[3].");
        Check.load(desk, 3, "(.[!1])*");
        Check.feed(desk, "ab|[2]");
        return desk;
    }

    /** 300 edges, 100 characters. */
    static PathDesk full() {
        PathDesk desk = new PathDesk();
        for (int i = 0; i < 300; i++) {
            putEdge(desk, i);
        }
        Check.load(desk, 1, "a*");
        Check.load(desk, 2, "^.{2}");
        Check.feed(desk, "ab|".repeat(33) + "c");
        return desk;
    }

    /** An edge of its own for each i below 512. */
    static boolean putEdge(PathDesk desk, int i) {
        return desk.edge(i % 32, i / 32 % 8, targetOf(i));
    }

    static boolean cutEdge(PathDesk desk, int i) {
        return desk.cut(i % 32, i / 32 % 8, targetOf(i));
    }

    static int targetOf(int i) {
        return (i * 7 + i / 32) % 32;
    }

    /** In each state the call throws that, and leaves no trace. */
    static void throwsInAll(String what, String exception, CallOn call) {
        for (Supplier<PathDesk> state : ALL) {
            noTrace(what, exception, state, call);
        }
    }

    static void noArgument(String what, CallOn call) {
        throwsInAll(what, "IllegalArgumentException", call);
    }

    static void noIndex(String what, CallOn call) {
        throwsInAll(what, "IndexOutOfBoundsException", call);
    }

    /** The outcome is that, and the object is then as one on which the call was not made. */
    static void noTrace(String what, String outcome, Supplier<PathDesk> state, CallOn call) {
        PathDesk asked = state.get();
        Check.due(what, outcome, Check.outcome(() -> call.answer(asked)));
        Check.due("the state after " + what, seen(state.get()), seen(asked));
    }

    /** 180 calls, so that with those of a full one there are not more than 512. */
    private static String seen(PathDesk desk) {
        StringBuilder all = new StringBuilder();
        for (int what = 0; what < 18; what++) {
            all.append(desk.count(what)).append(' ');
        }
        for (int slot = 0; slot < 4; slot++) {
            appendRelation(all, desk, slot);
        }
        all.append("; what waits: ").append(desk.load(0)).append(' ').append(desk.count(2));
        appendRelation(all, desk, 0);
        return all.toString();
    }

    private static void appendRelation(StringBuilder all, PathDesk desk, int slot) {
        all.append("; slot ").append(slot).append(':');
        for (int node = 0; node < 32; node++) {
            all.append(' ').append(desk.reach(slot, node, false));
        }
    }
}
