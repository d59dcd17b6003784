/**
 * An object is used for at most 512 calls: up to the last of them every answer is due, with as many
 * edges, characters, groups and steps as the document lets there be.
 */
public final class CallsBoundsTest {
    private static final int CALLS = 512;
    private static final int METHODS = 12;
    /** Each has 100 characters, 80 steps, and 10 groups that are open at once. */
    private static final String[] FULL = {
        "a|(".repeat(10) + "b".repeat(40) + ")".repeat(10) + "^c{9}[0].{9}|^.{9}aa",
        "(.".repeat(10) + "^.{9}{3}" + "a*b?c+".repeat(6) + "a{9}b{9}[0]aaaaaa" + ")*".repeat(9) + ")",
        "(".repeat(10) + "a|^b|.[!1]|[2]^." + "){1,2}" + ")?".repeat(9) + "(a{8}b{8}|c)*{3,4}" + "|".repeat(32),
        "(a|)".repeat(10) + "(".repeat(10) + "h" + ")".repeat(10) + "a{9}(^h{9}{6})[3][!2]aaaa" + "*".repeat(14),
    };
    private static final String[] SMALL = {"a*", "^.+", "(a|b)c", "[1].", "a)", "h{2}|", "^a?", "(."};

    private final PathDesk desk = new PathDesk();
    private final Model model = new Model();
    private int calls = 0;

    private CallsBoundsTest() {
    }

    public static void main(String[] args) {
        new CallsBoundsTest().allFull();
        for (int method = 0; method < METHODS; method++) {
            new CallsBoundsTest().mixedUpTo(method);
        }
        sameCallTo512();
        Check.end();
    }

    private void ask(String what, long want, Check.Call call) {
        calls++;
        Check.due("call " + calls + ", " + what, want, call);
    }

    /** 300 edges, four expressions that are as long as can be, and questions for the rest. */
    private void allFull() {
        for (int i = 0; i < 300; i++) {
            int edge = i;
            model.edge(i % 32, i / 32 % 8, States.targetOf(i));
            ask("edge " + i, 1, () -> Check.bit(States.putEdge(desk, edge)));
        }
        for (int node = 0; node < 32; node++) {
            model.tag(node, node % 4, true);
            desk.tag(node, node % 4, true);
            calls++;
        }
        for (int slot = 0; slot < 4; slot++) {
            loadFull(slot);
        }
        askOfAllFull();
        ask("the 301st edge", 0, () -> Check.bit(States.putEdge(desk, 300)));
        Check.due("calls", CALLS, () -> calls);
    }

    private void loadFull(int slot) {
        String text = FULL[slot];
        Check.due("characters of slot " + slot, 100, () -> Check.feed(desk, text));
        // 100 characters are twelve feeds of 8 and one of 4.
        calls += 13;
        feedModel(text);
        ask("load of slot " + slot, 0, () -> desk.load(slot));
        Check.due("load of the model", 0, () -> model.load(slot));
        ask("steps of slot " + slot, 80, () -> desk.count(2 + slot));
        Check.due("groups of slot " + slot, 10, () -> mostOpen(text));
    }

    private void feedModel(String text) {
        for (char c : text.toCharArray()) {
            model.feed(c, 1);
        }
    }

    private static int mostOpen(String text) {
        int open = 0;
        int most = 0;
        for (char c : text.toCharArray()) {
            open += c == '(' ? 1 : c == ')' ? -1 : 0;
            most = Math.max(most, open);
        }
        return most;
    }

    private void askOfAllFull() {
        for (int i = 0; i < 51; i++) {
            askReach(i % 4, i * 5 % 32, i % 3 == 0);
            askDistance(i % 4, i * 7 % 32, i * 3 % 32);
        }
        for (int slot = 0; slot < 4; slot++) {
            askSpan(slot);
            askCircle(slot);
            askBest(slot);
        }
        for (int how = 0; how <= 4; how++) {
            askPairs(how % 4, 3 - how % 3, how);
        }
    }

    private void askReach(int slot, int node, boolean backwards) {
        ask("reach(" + slot + ", " + node + ", " + backwards + ")", model.reach(slot, node, backwards),
                () -> desk.reach(slot, node, backwards));
    }

    private void askDistance(int slot, int from, int to) {
        ask("distance(" + slot + ", " + from + ", " + to + ")", model.distances(slot)[from][to],
                () -> desk.distance(slot, from, to));
    }

    private void askSpan(int slot) {
        ask("span(" + slot + ")", model.span(slot), () -> desk.span(slot));
    }

    private void askPairs(int slot, int other, int how) {
        ask("pairs(" + slot + ", " + other + ", " + how + ")", model.pairs(slot, other, how),
                () -> desk.pairs(slot, other, how));
    }

    private void askCircle(int slot) {
        ask("circle(" + slot + ")", model.circle(slot), () -> desk.circle(slot));
    }

    private void askBest(int slot) {
        ask("best(" + slot + ")", model.best(slot), () -> desk.best(slot));
    }

    /** All methods in turn, so that the 512th call is one of the given method. */
    private void mixedUpTo(int method) {
        for (int call = 1; call <= CALLS; call++) {
            askInTurn(Math.floorMod(call + method - CALLS, METHODS), call);
        }
        Check.due("calls", CALLS, () -> calls);
    }

    private void askInTurn(int method, int turn) {
        int slot = turn / METHODS % 4;
        int node = turn * 5 % 32;
        int other = turn * 11 % 32;
        int label = turn % 8;
        switch (method) {
            case 0 -> ask("edge", Check.bit(model.edge(node, label, other)),
                    () -> Check.bit(desk.edge(node, label, other)));
            case 1 -> ask("cut", Check.bit(model.cut(other, label, node)),
                    () -> Check.bit(desk.cut(other, label, node)));
            case 2 -> tagInTurn(node, turn % 4, turn % 5 > 0);
            case 3 -> feedInTurn(SMALL[turn / METHODS % SMALL.length]);
            case 4 -> ask("load", model.load(slot), () -> desk.load(slot));
            case 5 -> askReach(slot, node, turn % 2 == 0);
            case 6 -> askDistance(slot, node, other);
            case 7 -> askSpan(slot);
            case 8 -> askPairs(slot, turn % 4, turn % 5);
            case 9 -> askCircle(slot);
            case 10 -> askBest(slot);
            default -> ask("count", model.count(turn % 20 - 1), () -> desk.count(turn % 20 - 1));
        }
    }

    private void tagInTurn(int node, int tag, boolean on) {
        model.tag(node, tag, on);
        ask("tag", 0, () -> {
            desk.tag(node, tag, on);
            return 0;
        });
    }

    private void feedInTurn(String text) {
        feedModel(text);
        ask("feed", model.count(1), () -> Check.feed(desk, text));
    }

    /** One and the same call, 512 times: the first answer, and that of all others. */
    private static void sameCallTo512() {
        same("edge", 1, 0, desk -> Check.bit(desk.edge(31, 7, 31)));
        same("cut", 0, 0, desk -> Check.bit(desk.cut(31, 7, 31)));
        same("tag", 0, 0, desk -> {
            desk.tag(31, 3, true);
            return 0;
        });
        same("load", 0, 0, desk -> desk.load(3));
        same("reach", 1 << 31, 1 << 31, desk -> desk.reach(3, 31, true));
        same("distance", 0, 0, desk -> desk.distance(3, 31, 31));
        same("span", 0, 0, desk -> desk.span(3));
        same("pairs", 32, 32, desk -> desk.pairs(3, 3, 4));
        same("circle", 0, 0, desk -> desk.circle(3));
        same("best", 0, 0, desk -> desk.best(3));
        same("count", 0, 0, desk -> desk.count(17));
        PathDesk desk = new PathDesk();
        for (int call = 1; call <= CALLS; call++) {
            Check.due("feed " + call, call <= 100 ? call : PathDesk.NONE, () -> desk.feed('a', 1));
        }
    }

    private static void same(String what, int first, int others, States.CallOn call) {
        PathDesk desk = new PathDesk();
        Check.due("first " + what, first, () -> call.answer(desk));
        for (int turn = 2; turn <= CALLS; turn++) {
            Check.due(what + " " + turn, others, () -> call.answer(desk));
        }
    }
}
