import java.util.Random;

/** All promises: long mixed runs of calls, each answer held against the model's. */
public final class ModelTest {
    private static final int RUNS = 60;
    private static final int LOADS = 1500;
    /** An object is good for 512 calls; one text may take some 100 of them. */
    private static final int CALLS = 400;
    private static final String MARKS = "aabbch..^^[]!0123()()||**+?{}{},129 i";

    private final Random random;
    private final PathDesk desk = new PathDesk();
    private final Model model = new Model();
    private final int nodes;
    private final int labels;
    private final StringBuilder calls = new StringBuilder();
    private int made = 0;

    private ModelTest(int run) {
        // A given start makes every run the same each time.
        random = new Random(run);
        nodes = run % 3 == 0 ? 32 : 3 + random.nextInt(8);
        labels = 1 + random.nextInt(8);
    }

    public static void main(String[] args) {
        for (int run = 0; run < RUNS; run++) {
            new ModelTest(run).run();
        }
        for (int run = 0; run < LOADS; run++) {
            new ModelTest(run).loadOnly();
        }
        Check.end();
    }

    private void run() {
        int change = 2 + random.nextInt(8);
        while (made < CALLS) {
            if (random.nextInt(10) < change) {
                changeSome();
            } else {
                askSome();
            }
        }
    }

    private void loadOnly() {
        feedText(wrongAtTimes(someShortText(20)));
        compare("load(0)", model.load(0), desk.load(0));
        compare("count(2)", model.count(2), desk.count(2));
        compare("count(1)", model.count(1), desk.count(1));
    }

    private void changeSome() {
        int from = random.nextInt(nodes);
        int to = random.nextInt(nodes);
        int label = random.nextInt(labels);
        switch (random.nextInt(8)) {
            case 0, 1, 2, 3 -> compare("edge(" + from + ", " + label + ", " + to + ")",
                    Check.bit(model.edge(from, label, to)), Check.bit(desk.edge(from, label, to)));
            case 4 -> compare("cut(" + from + ", " + label + ", " + to + ")",
                    Check.bit(model.cut(from, label, to)), Check.bit(desk.cut(from, label, to)));
            case 5 -> {
                int tag = random.nextInt(4);
                boolean on = random.nextInt(3) > 0;
                calls.append("tag(").append(from).append(", ").append(tag).append(", ").append(on).append(") ");
                made++;
                model.tag(from, tag, on);
                desk.tag(from, tag, on);
            }
            default -> {
                int slot = random.nextInt(4);
                feedText(wrongAtTimes(someShortText(2 + random.nextInt(12))));
                compare("load(" + slot + ")", model.load(slot), desk.load(slot));
                compare("count(" + (2 + slot) + ")", model.count(2 + slot), desk.count(2 + slot));
            }
        }
    }

    private void askSome() {
        int slot = random.nextInt(4);
        int other = random.nextInt(4);
        int node = random.nextInt(nodes);
        int to = random.nextInt(nodes);
        switch (random.nextInt(7)) {
            case 0 -> {
                boolean backwards = random.nextBoolean();
                compare("reach(" + slot + ", " + node + ", " + backwards + ")",
                        model.reach(slot, node, backwards), desk.reach(slot, node, backwards));
            }
            case 1 -> compare("distance(" + slot + ", " + node + ", " + to + ")",
                    model.distances(slot)[node][to], desk.distance(slot, node, to));
            case 2 -> compare("span(" + slot + ")", model.span(slot), desk.span(slot));
            case 3 -> {
                int how = random.nextInt(5);
                compare("pairs(" + slot + ", " + other + ", " + how + ")",
                        model.pairs(slot, other, how), desk.pairs(slot, other, how));
            }
            case 4 -> compare("circle(" + slot + ")", model.circle(slot), desk.circle(slot));
            case 5 -> compare("best(" + slot + ")", model.best(slot), desk.best(slot));
            default -> {
                int what = random.nextInt(20) - 1;
                compare("count(" + what + ")", model.count(what), desk.count(what));
            }
        }
    }

    private void feedText(String text) {
        for (int start = 0; start < text.length(); ) {
            int n = Math.min(1 + random.nextInt(8), text.length() - start);
            long chars = n == 8 ? 0 : random.nextLong();
            for (int i = start; i < start + n; i++) {
                chars = chars << 8 | text.charAt(i);
            }
            compare("feed(" + text.substring(start, start + n) + ")", model.feed(chars, n), desk.feed(chars, n));
            start += n;
        }
    }

    private String wrongAtTimes(String text) {
        if (random.nextInt(4) > 0 || text.isEmpty()) {
            return text;
        }
        int place = random.nextInt(text.length());
        char mark = MARKS.charAt(random.nextInt(MARKS.length()));
        return text.substring(0, place) + mark + text.substring(place + random.nextInt(2));
    }

    private String someShortText(int size) {
        String text = someText(size);
        return text.length() > 100 ? text.substring(0, 100) : text;
    }

    private String someText(int size) {
        if (size <= 1) {
            return random.nextInt(6) == 0 ? "" : repeated(atom());
        }
        int left = 1 + random.nextInt(size - 1);
        return switch (random.nextInt(5)) {
            case 0 -> someText(left) + "|" + someText(size - left);
            case 1 -> repeated("(" + someText(size - 1) + ")");
            default -> someText(left) + someText(size - left);
        };
    }

    private String atom() {
        String back = random.nextInt(4) == 0 ? "^" : "";
        return switch (random.nextInt(5)) {
            case 0 -> "[" + (random.nextBoolean() ? "!" : "") + random.nextInt(4) + "]";
            case 1 -> back + ".";
            default -> back + (char) ('a' + random.nextInt(labels));
        };
    }

    private String repeated(String text) {
        String result = text;
        while (random.nextInt(3) == 0) {
            int most = 1 + random.nextInt(random.nextInt(4) == 0 ? 9 : 3);
            result += switch (random.nextInt(5)) {
                case 0 -> "*";
                case 1 -> "+";
                case 2 -> "?";
                case 3 -> "{" + most + "}";
                default -> "{" + random.nextInt(most + 1) + "," + most + "}";
            };
        }
        return result;
    }

    private void compare(String call, long want, long got) {
        made++;
        calls.append(call).append(' ');
        Check.due(want == got ? call : calls.toString(), want, () -> got);
    }
}
