/** What the tests have in common: comparing answers, and telling expressions in plain text. */
final class Check {
    private static int checks = 0;
    private static int wrong = 0;

    private Check() {
    }

    /** A call that may throw. */
    interface Call {
        long answer();
    }

    /** What is written of a call that throws. */
    static String outcome(Call call) {
        try {
            return Long.toString(call.answer());
        } catch (RuntimeException e) {
            return e.getClass().getSimpleName();
        }
    }

    static void due(String what, String want, String got) {
        checks++;
        if (!want.equals(got)) {
            wrong++;
            System.out.println(what + " answered " + got + ", due is " + want);
        }
    }

    static void due(String what, long want, Call call) {
        due(what, Long.toString(want), outcome(call));
    }

    static void due(String what, boolean want, boolean got) {
        due(what, Boolean.toString(want), Boolean.toString(got));
    }

    static void noArgument(String what, Call call) {
        due(what, "IllegalArgumentException", outcome(call));
    }

    static void noIndex(String what, Call call) {
        due(what, "IndexOutOfBoundsException", outcome(call));
    }

    static long bit(boolean answer) {
        return answer ? 1 : 0;
    }

    /** Feeds a text in portions of at most 8 and answers what the last feed did. */
    static int feed(PathDesk desk, String text) {
        int answer = desk.count(1);
        for (int start = 0; start < text.length(); start += 8) {
            int end = Math.min(start + 8, text.length());
            long chars = 0;
            for (int i = start; i < end; i++) {
                chars = chars << 8 | text.charAt(i);
            }
            answer = desk.feed(chars, end - start);
        }
        return answer;
    }

    static int load(PathDesk desk, int slot, String text) {
        feed(desk, text);
        return desk.load(slot);
    }

    /** A set of nodes as the bits that reach answers. */
    static int nodes(int... nodes) {
        int bits = 0;
        for (int node : nodes) {
            bits |= 1 << node;
        }
        return bits;
    }

    static void end() {
        System.out.println(checks + " checks, " + wrong + " wrong");
        if (wrong != 0 || checks == 0) {
            System.exit(1);
        }
    }
}
