/** Promises 5 and 6 with ordinary calls: feed and load, and how the steps of an expression are counted. */
public final class ReadingTest {
    private ReadingTest() {
    }

    public static void main(String[] args) {
        feedTakesBytes();
        loadTakesAll();
        loadFindsTheFirstWrongOne();
        loadWantsMore();
        loadKnowsEveryCharacter();
        Check.end();
    }

    /** Promise 5. */
    private static void feedTakesBytes() {
        PathDesk desk = new PathDesk();
        desk.edge(0, 0, 1);
        desk.edge(1, 1, 2);
        Check.due("the lowest two bytes", 2, () -> desk.feed(0x7A7A7A7A7A7A6162L, 2));
        Check.due("they are ab", 0, () -> desk.load(0));
        Check.due("a, then b", Check.nodes(2), () -> desk.reach(0, 0, false));
        Check.due("eight bytes", 8, () -> desk.feed(0x6162636465666768L, 8));
        Check.due("one byte behind them", 9, () -> desk.feed('a', 1));
        Check.due("nine wait", 9, () -> desk.count(1));
        Check.due("all are letters", 0, () -> desk.load(0));
        Check.due("nine steps", 9, () -> desk.count(2));
        Check.due("bytes above 127", 8, () -> desk.feed(-1L, 8));
        Check.due("can't be there", 1, () -> desk.load(0));
        desk.feed('a' | 0xFF00, 2);
        Check.due("the highest byte comes first", 1, () -> desk.load(0));
    }

    /** Promise 6. */
    private static void loadTakesAll() {
        steps("", 0);
        steps("()", 0);
        steps("|", 0);
        steps("||a||", 1);
        steps("(|)*+?{9}{0,9}", 0);
        steps("abcdefgh", 8);
        steps("^a^b^.", 3);
        steps(".", 1);
        steps("[0][1][2][3][!0][!1][!2][!3]", 8);
        steps("a*+?*+?", 1);
        steps("a{1}", 1);
        steps("a{0,1}", 1);
        steps("a{9,9}", 9);
        steps("a{0,9}", 9);
        steps("ab{3}", 4);
        steps("(ab){3}", 6);
        steps("(a|b|)c{2}{3}", 8);
        steps("a{2}*{3}", 6);
        steps("([1]a){2,4}^b", 9);
        steps("((((((((((a))))))))))", 1);
        steps("((((((((((a))))))))))((((((((((b))))))))))", 2);
        steps("(){9}{9}{9}{9}{9}{9}{9}{9}{9}{9}{9}{9}{9}{9}{9}{9}{9}{9}{9}{9}{9}{9}{9}{9}{9}{9}{9}{9}{9}{9}{9}{9}", 0);
    }

    private static void steps(String text, int steps) {
        PathDesk desk = new PathDesk();
        Check.due("load of " + text, 0, () -> Check.load(desk, 3, text));
        Check.due("steps of " + text, steps, () -> desk.count(5));
        Check.due("none waits after " + text, 0, () -> desk.count(1));
    }

    private static void wrongAt(String text, int place) {
        PathDesk desk = new PathDesk();
        Check.due("load of " + text, 1 + place, () -> Check.load(desk, 2, text));
        Check.due("none waits after " + text, 0, () -> desk.count(1));
        Check.due("steps after " + text, 0, () -> desk.count(4));
        startsAnew(desk, text);
    }

    /** Whatever was wrong, the next load knows nothing of it. */
    private static void startsAnew(PathDesk desk, String text) {
        Check.due("load of * after " + text, 1, () -> Check.load(desk, 2, "*"));
        Check.due("load of a) after " + text, 2, () -> Check.load(desk, 2, "a)"));
        Check.due("load of ab{2} after " + text, 0, () -> Check.load(desk, 2, "ab{2}"));
        Check.due("steps of ab{2} after " + text, 3, () -> desk.count(4));
    }

    private static void loadFindsTheFirstWrongOne() {
        wrongAt("*", 0);
        wrongAt("+", 0);
        wrongAt("?a", 0);
        wrongAt("{1}", 0);
        wrongAt("a|*", 2);
        wrongAt("(+)", 1);
        wrongAt("a({2})", 2);
        wrongAt(")", 0);
        wrongAt("(a))b", 3);
        wrongAt("]", 0);
        wrongAt("a}", 1);
        wrongAt("a,", 1);
        wrongAt("a!", 1);
        wrongAt("1", 0);
        wrongAt("a b", 1);
        wrongAt("i", 0);
        wrongAt("A", 0);
        wrongAt("abz*", 2);
        wrongAt("^^a", 1);
        wrongAt("^(a)", 1);
        wrongAt("^[0]", 1);
        wrongAt("^i", 1);
        wrongAt("^*", 1);
        wrongAt("[]", 1);
        wrongAt("[a]", 1);
        wrongAt("[4]", 1);
        wrongAt("[!4]", 2);
        wrongAt("[!!1]", 2);
        wrongAt("[!]", 2);
        wrongAt("[12]", 2);
        wrongAt("[1*", 2);
        wrongAt("[!1)", 3);
        wrongAt("a{}", 2);
        wrongAt("a{,2}", 2);
        wrongAt("a{x", 2);
        wrongAt("a{0}", 3);
        wrongAt("a{10}", 3);
        wrongAt("a{1;2}", 3);
        wrongAt("a{1,}", 4);
        wrongAt("a{0,0}", 4);
        wrongAt("a{3,2}", 4);
        wrongAt("a{9,8}", 4);
        wrongAt("a{1,a}", 4);
        wrongAt("a{1,23}", 5);
        wrongAt("a{1,2,3}", 5);
        wrongAt("a{1,2)", 5);
        wrongAt("a{9}{9}!", 7);
    }

    private static void loadWantsMore() {
        for (String text : new String[] {"(", "a(b", "(a|", "((a)", "^", "a^", "[", "[!", "[1", "[!1",
                "a{", "a{0", "a{1", "a{1,", "a{1,2", "(a{9}){9}{9}("}) {
            wrongAt(text, text.length());
        }
        wrongAt("a".repeat(99) + "(", 100);
    }

    /** Each byte in each place where the document tells what may come. */
    private static void loadKnowsEveryCharacter() {
        String letters = "abcdefgh.";
        eachByte("", letters + "|", "^[(");
        eachByte("(", ")", letters + "|^[(");
        eachByte("a", letters + "|*+?", "^[({");
        eachByte("a|", letters + "|", "^[(");
        eachByte("(a|", ")", letters + "|^[(");
        eachByte("^", letters, "");
        eachByte("[", "", "!0123");
        eachByte("[!", "", "0123");
        eachByte("[2", "]", "");
        eachByte("a{", "", "0123456789");
        eachByte("a{0", "", ",");
        eachByte("a{4", "}", ",");
        eachByte("a{0,", "", "123456789");
        eachByte("a{4,", "", "456789");
        eachByte("a{4,5", "}", "");
        eachByte("a{4}", letters + "|*+?", "^[({");
        eachByte("[1]", letters + "|*+?", "^[({");
        eachByte("()", letters + "|*+?", "^[({");
    }

    /** Behind some characters: those with which all may end, and those behind which more must come. */
    private static void eachByte(String ahead, String ending, String goingOn) {
        for (char c = 0; c < 256; c++) {
            String text = ahead + c;
            int due = text.length();
            if (ending.indexOf(c) >= 0) {
                due = 0;
            } else if (goingOn.indexOf(c) >= 0) {
                due = 1 + text.length();
            }
            PathDesk desk = new PathDesk();
            Check.due("load of " + ahead + " and byte " + (int) c, due, () -> Check.load(desk, 0, text));
        }
    }
}
