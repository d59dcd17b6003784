/** What the tests have in common: comparing answers, and telling expressions in plain text. */
final class Check {
    private static int checks = 0;
    private static int wrong = 0;

    private Check() {
    }

    /** A call that may throw. */
    interface Call {
        long answer();
    }

    /** What is written of a call that throws. */
    static String outcome(Call call) {
        try {
            return Long.toString(call.answer());
        } catch (RuntimeException e) {
            return e.getClass().getSimpleName();
        }
    }

    static void due(String what, String want, String got) {
        checks++;
        if (!want.equals(got)) {
            wrong++;
            System.out.println(what + " answered " + got + ", due is " + want);
        }
    }

    static void due(String what, long want, Call call) {
        due(what, Long.toString(want), outcome(call));
    }

    static void due(String what, boolean want, boolean got) {
        due(what, Boolean.toString(want), Boolean.toString(got));
    }

    static void noArgument(String what, Call call) {
        due(what, "IllegalArgumentException", outcome(call));
    }

    static void noIndex(String what, Call call) {
        due(what, "IndexOutOfBoundsException", outcome(call));
    }

    static long bit(boolean answer) {
        return answer ? 1 : 0;
    }

    /** Feeds a text in portions of at most 8 and answers what the last feed did, 0 when there is none. */
    static int feed(PathDesk desk, String text) {
        int answer = 0;
        for (int start = 0; start < text.length(); start += 8) {
            int end = Math.min(start + 8, text.length());
            long chars = 0;
            for (int i = start; i < end; i++) {
                chars = chars << 8 | text.charAt(i);
            }
            answer = desk.feed(chars, end - start);
        }
        return answer;
    }

    static int load(PathDesk desk, int slot, String text) {
        if (text.length() > 100) {
            throw new IllegalStateException("the test's own text is too long");
        }
        feed(desk, text);
        return desk.load(slot);
    }

    /** Whether a slot has an empty row, in 73 calls: no steps, and each node a pair with itself alone. */
    static void emptyRow(String when, PathDesk desk, int slot) {
        String what = when + ", slot " + slot + ": ";
        due(what + "steps", 0, () -> desk.count(2 + slot));
        due(what + "pairs", 32, () -> desk.pairs(slot, slot, 0));
        due(what + "span", 0, () -> desk.span(slot));
        due(what + "circle", 0, () -> desk.circle(slot));
        due(what + "best", 0, () -> desk.best(slot));
        due(what + "distance of 0", 0, () -> desk.distance(slot, 0, 0));
        due(what + "distance of 31", 0, () -> desk.distance(slot, 31, 31));
        due(what + "distance from 0 to 31", PathDesk.NONE, () -> desk.distance(slot, 0, 31));
        due(what + "distance from 31 to 0", PathDesk.NONE, () -> desk.distance(slot, 31, 0));
        for (int n = 0; n < 32; n++) {
            int node = n;
            due(what + "reach from " + n, 1 << node, () -> desk.reach(slot, node, false));
            due(what + "reach to " + n, 1 << node, () -> desk.reach(slot, node, true));
        }
    }

    /** A set of nodes as the bits that reach answers. */
    static int nodes(int... nodes) {
        int bits = 0;
        for (int node : nodes) {
            bits |= 1 << node;
        }
        return bits;
    }

    static void end() {
        System.out.println(checks + " checks, " + wrong + " wrong");
        if (wrong != 0 || checks == 0) {
            System.exit(1);
        }
    }
}
