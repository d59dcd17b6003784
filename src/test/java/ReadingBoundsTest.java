/** Promises 5 and 6 at the bounds that the document names: bytes, characters, repeats, groups, steps, slots. */
public final class ReadingBoundsTest {
    private static final int[] NO_NUMBERS_OF_BYTES =
            {0, -1, 9, 10, 16, -8, 256, 257, Integer.MIN_VALUE, Integer.MAX_VALUE};
    /** One text for each way in which load can fail: a wrong character, more must come, too many steps. */
    private static final String[] FAILING = {"aa)", "a(", "a{9}{9}", "a^", "a[", "a{"};
    /** Each kind of step, at both ends of its letters and digits. */
    private static final String[] STEPS =
            {"a", "h", ".", "^a", "^h", "^.", "[0]", "[3]", "[!0]", "[!3]"};

    private ReadingBoundsTest() {
    }

    public static void main(String[] args) {
        feedTakes1To8();
        feedTakesTheLowestBytes();
        feedTakesAnyByte();
        feedThrows();
        feedEndsAt100();
        feedOfTooManyLeavesRoom();
        feedAfterLoadStartsAnew();
        loadOfNone();
        loadIntoEachSlot();
        loadThrows();
        charactersAreGone();
        firstWrongAtEachPlace();
        moreMustComeAtEachLength();
        firstOfSeveral();
        failedLoadLeavesAnEmptyRow();
        lettersEnd();
        tagDigitsEnd();
        countsOfARepeatEnd();
        countedTwiceEnd();
        digitsEnd();
        rowsMayBeEmpty();
        repeatsNeedAnAtom();
        repeatsAsOftenAsOneLikes();
        groupsEndAt10();
        groupsOpenAndClose();
        stepsEndAt80();
        stepsOfCopiesEndAt80();
        stepsOfGroupsEndAt80();
        stepsDoNotWrapRound();
        wrongOnesComeAheadOfSteps();
        Check.end();
    }

    private static void load(String text, int due) {
        PathDesk desk = new PathDesk();
        Check.due("load of " + text, due, () -> Check.load(desk, 0, text));
    }

    private static void good(String text, int steps) {
        PathDesk desk = new PathDesk();
        Check.due("load of " + text, 0, () -> Check.load(desk, 0, text));
        Check.due("steps of " + text, steps, () -> desk.count(2));
    }

    private static void wrongAt(String text, int place) {
        load(text, 1 + place);
    }

    private static void wantsMore(String text) {
        load(text, 1 + text.length());
    }

    private static void tooMany(String text) {
        PathDesk desk = new PathDesk();
        Check.due("load of " + text, -2, () -> Check.load(desk, 0, text));
        Check.due("steps after " + text, 0, () -> desk.count(2));
    }

    /** An edge by each label from a node to the next, 0 to 8. */
    private static PathDesk stairs() {
        PathDesk desk = new PathDesk();
        for (int label = 0; label < 8; label++) {
            desk.edge(label, label, label + 1);
        }
        return desk;
    }

    /** Stairs on which some characters wait: letters a and bars, so that they are an expression. */
    private static PathDesk waiting(int characters) {
        PathDesk desk = stairs();
        Check.feed(desk, "a|".repeat(50).substring(0, characters));
        return desk;
    }

    /** Promise 5: n is 1 .. 8; how many there are. */
    private static void feedTakes1To8() {
        for (int n = 1; n <= 8; n++) {
            int bytes = n;
            PathDesk desk = new PathDesk();
            Check.due("feed of " + n, n, () -> desk.feed(0x6162636465666768L, bytes));
            Check.due("they wait", n, () -> desk.count(1));
            Check.due("as many again", 2 * n, () -> desk.feed(0x6162636465666768L, bytes));
            Check.due("all are letters", 0, () -> desk.load(0));
            Check.due("steps", 2 * n, () -> desk.count(2));
        }
    }

    /** Promise 5: the n lowest bytes, the highest of them first, come behind the characters. */
    private static void feedTakesTheLowestBytes() {
        for (int n = 1; n <= 8; n++) {
            long chars = -1L;
            for (int i = 0; i < n; i++) {
                chars = chars << 8 | 'a' + i;
            }
            long letters = chars;
            int bytes = n;
            PathDesk desk = stairs();
            Check.due("feed of " + n, n, () -> desk.feed(letters, bytes));
            Check.due("no byte above them", 0, () -> desk.load(0));
            Check.due("a first, then the others", 1 << n, () -> desk.reach(0, 0, false));
        }
        for (int n = 1; n < 8; n++) {
            PathDesk desk = stairs();
            for (int i = 0; i < n; i++) {
                desk.feed('a' + i, 1);
            }
            desk.feed('a' + n, 1);
            desk.load(0);
            Check.due("one behind the other", 1 << (n + 1), () -> desk.reach(0, 0, false));
        }
        PathDesk desk = new PathDesk();
        Check.due("zeros above are bytes, too", 3, () -> desk.feed('a', 3));
        Check.due("and come first", 1, () -> desk.load(0));
        desk.feed(0x61616161FF616161L, 7);
        Check.due("the fourth of seven", 4, () -> desk.load(0));
    }

    private static void feedTakesAnyByte() {
        for (int b = 0; b < 256; b++) {
            int character = b;
            PathDesk desk = new PathDesk();
            Check.due("feed of byte " + b, 1, () -> desk.feed(character, 1));
            Check.due("byte " + b + " waits", 1, () -> desk.count(1));
            Check.due("eight of them", 9, () -> desk.feed(character * 0x0101010101010101L, 8));
        }
        for (int b : new int[] {0, 1, 31, 32, 127, 128, 255, 'a' | 128, '|' | 128}) {
            load("" + (char) b, 1);
            load("a" + (char) b, 2);
        }
    }

    /** Promise 5: IllegalArgumentException when n is not 1 .. 8. */
    private static void feedThrows() {
        for (int n : NO_NUMBERS_OF_BYTES) {
            for (long chars : new long[] {'a', 0, -1, Long.MIN_VALUE}) {
                States.noArgument("feed of " + n, desk -> desk.feed(chars, n));
            }
        }
    }

    /** Promise 5: NONE when there would be more than 100. */
    private static void feedEndsAt100() {
        for (int n = 1; n <= 8; n++) {
            int bytes = n;
            PathDesk desk = waiting(100 - n);
            Check.due(n + " more make 100", 100, () -> desk.feed(0x6161616161616161L, bytes));
            Check.due("100 wait", 100, () -> desk.count(1));
            for (int more = 1; more <= 8; more++) {
                int again = more;
                Check.due("100 and " + more, PathDesk.NONE, () -> desk.feed(0x6161616161616161L, again));
            }
            Check.due("100 wait still", 100, () -> desk.count(1));
            for (int over = 1; over <= n; over++) {
                int there = 100 - n + over;
                States.noTrace(there + " and " + n, "-1", () -> waiting(there),
                        other -> other.feed(0x6161616161616161L, bytes));
            }
        }
    }

    private static void feedOfTooManyLeavesRoom() {
        PathDesk desk = stairs();
        Check.feed(desk, "|".repeat(93));
        Check.due("eight are too many", PathDesk.NONE, () -> desk.feed(-1, 8));
        Check.due("six are not", 99, () -> desk.feed(0x7C7C7C7C7C7CL, 6));
        Check.due("two are too many", PathDesk.NONE, () -> desk.feed(-1, 2));
        Check.due("one is not", 100, () -> desk.feed('a', 1));
        Check.due("one is too many", PathDesk.NONE, () -> desk.feed(-1, 1));
        Check.due("those that came are an expression", 0, () -> desk.load(0));
        Check.due("of one step", 1, () -> desk.count(2));
        Check.due("the last one is among them", Check.nodes(0, 1), () -> desk.reach(0, 0, false));
    }

    private static void feedAfterLoadStartsAnew() {
        PathDesk desk = new PathDesk();
        for (String last : new String[] {"|", ")", "(", "a"}) {
            Check.due("100 of them", 100, () -> Check.feed(desk, "|".repeat(99) + last));
            Check.due("no room", PathDesk.NONE, () -> desk.feed('a', 1));
            desk.load(1);
            Check.due("none waits", 0, () -> desk.count(1));
        }
        Check.due("81 steps", -2, () -> Check.load(desk, 1, "a".repeat(81)));
        Check.due("the first again", 1, () -> desk.feed('a', 1));
    }

    /** Promise 6 without characters: an empty row, which has none. */
    private static void loadOfNone() {
        for (int s = 0; s < 4; s++) {
            int slot = s;
            PathDesk desk = stairs();
            Check.load(desk, slot, "a*b");
            Check.due("load of none", 0, () -> desk.load(slot));
            Check.emptyRow("load of none", desk, slot);
            Check.due("load of none again", 0, () -> desk.load(slot));
        }
    }

    /** Promise 6: the characters become a slot's expression. Terms: slots 0 .. 3. */
    private static void loadIntoEachSlot() {
        for (int s = 0; s < 4; s++) {
            int slot = s;
            PathDesk desk = stairs();
            for (int other = 0; other < 4; other++) {
                Check.load(desk, other, "ab");
            }
            Check.due("load(" + slot + ")", 0, () -> Check.load(desk, slot, "a?b?c?"));
            for (int o = 0; o < 4; o++) {
                int other = o;
                Check.due("steps of " + o, o == slot ? 3 : 2, () -> desk.count(2 + other));
                Check.due("reach of " + o, o == slot ? Check.nodes(0, 1, 2, 3) : Check.nodes(2),
                        () -> desk.reach(other, 0, false));
            }
        }
    }

    /** Promise 6: IndexOutOfBoundsException when there is no such slot. */
    private static void loadThrows() {
        for (int slot : States.NO_SLOTS) {
            States.noIndex("load(" + slot + ")", desk -> desk.load(slot));
            for (String text : FAILING) {
                PathDesk desk = new PathDesk();
                Check.feed(desk, text);
                Check.noIndex("load(" + slot + ") of " + text, () -> desk.load(slot));
                Check.due("they wait still", text.length(), () -> desk.count(1));
            }
        }
    }

    /** Promise 6: and are gone. Where load fails the document says no other thing of them. */
    private static void charactersAreGone() {
        for (String text : new String[] {"ab", "a*", "aa)", "a(", "a{9}{9}", ")", "^"}) {
            PathDesk desk = new PathDesk();
            Check.load(desk, 2, text);
            Check.due("none waits after " + text, 0, () -> desk.count(1));
            Check.due("none is loaded after " + text, 0, () -> desk.load(3));
            Check.due("b is all after " + text, 0, () -> Check.load(desk, 3, "b"));
            Check.due("one step after " + text, 1, () -> desk.count(5));
        }
    }

    /** Promise 6: 1 + the place (from 0) of the first one that can't be there. */
    private static void firstWrongAtEachPlace() {
        for (int place = 0; place < 100; place++) {
            String ahead = "a".repeat(place);
            wrongAt(ahead + ")", place);
            wrongAt(ahead + "i" + "a".repeat(99 - place), place);
            wrongAt("|".repeat(place) + "*", place);
        }
    }

    /** Promise 6: their number, when more must come. */
    private static void moreMustComeAtEachLength() {
        for (int length = 1; length <= 100; length++) {
            wantsMore("a".repeat(length - 1) + "^");
            wantsMore("a".repeat(length - 1) + "(");
            wantsMore("(" + "a".repeat(length - 1));
        }
        for (String text : new String[] {"(", "((", "(()", "()(", "(a|", "^", "[", "[!", "[0", "[!3", "a{", "a{0",
            "a{9", "a{0,", "a{9,", "a{0,1", "a{9,9", "(a){1", "a|^", "(^", "([0"}) {
            wantsMore(text);
            String many = "a".repeat(100 - text.length()) + text;
            wantsMore(many);
        }
    }

    private static void firstOfSeveral() {
        wrongAt("))", 0);
        wrongAt("]a)", 0);
        wrongAt("a)]", 1);
        wrongAt("(]", 1);
        wrongAt("^^", 1);
        wrongAt("a{0}{0}", 3);
        wrongAt("a{2,1}(", 4);
        wrongAt("(".repeat(12), 10);
        wrongAt("(".repeat(100), 10);
        wrongAt(")".repeat(100), 0);
    }

    /** Promise 6: else it is an empty row. */
    private static void failedLoadLeavesAnEmptyRow() {
        for (String text : FAILING) {
            for (int slot = 0; slot < 4; slot++) {
                PathDesk desk = stairs();
                for (int other = 0; other < 4; other++) {
                    Check.load(desk, other, "ab");
                    desk.pairs(other, other, 0);
                }
                Check.load(desk, slot, text);
                Check.emptyRow("after " + text, desk, slot);
                for (int o = 0; o < 4; o++) {
                    int other = o;
                    Check.due("pairs of " + o, o == slot ? 32 : 1, () -> desk.pairs(other, other, 0));
                    Check.due("steps of " + o, o == slot ? 0 : 2, () -> desk.count(2 + other));
                }
                Check.due("the edges stay", 8, () -> desk.count(0));
                startsAnew(text, desk, slot);
            }
        }
    }

    /** Whatever was wrong, the next load knows nothing of it. */
    private static void startsAnew(String text, PathDesk desk, int slot) {
        Check.due("load of * after " + text, 1, () -> Check.load(desk, slot, "*"));
        Check.due("load of a) after " + text, 2, () -> Check.load(desk, slot, "a)"));
        Check.due("load of ab{2} after " + text, 0, () -> Check.load(desk, slot, "ab{2}"));
        Check.due("steps of ab{2} after " + text, 3, () -> desk.count(2 + slot));
    }

    /** Terms: a letter a .. h, ^ and a letter, . , ^ . */
    private static void lettersEnd() {
        for (char letter = 'a'; letter <= 'h'; letter++) {
            good("" + letter, 1);
            good("^" + letter, 1);
        }
        good(".", 1);
        good("^.", 1);
        for (char c : new char[] {'a' - 1, 'h' + 1, 'A', 'H', '-', '/', 'z', '0'}) {
            wrongAt("" + c, 0);
            wrongAt("^" + c, 1);
        }
        for (char c : new char[] {'^', '[', '(', '|', ')', '*', '{', ']'}) {
            wrongAt("^" + c, 1);
        }
    }

    /** Terms: [ digit ], [ ! digit ] (digits 0 .. 3). */
    private static void tagDigitsEnd() {
        for (char digit = '0'; digit <= '3'; digit++) {
            good("[" + digit + "]", 1);
            good("[!" + digit + "]", 1);
            wrongAt("[" + digit + digit + "]", 2);
            wrongAt("[!" + digit + digit + "]", 3);
            wrongAt("[" + digit + "!]", 2);
        }
        for (char c : new char[] {'0' - 1, '3' + 1, '9', ']', '[', 'a', '^'}) {
            wrongAt("[" + c + "]", 1);
            wrongAt("[!" + c + "]", 2);
        }
    }

    /** Terms: { m } or { m , n }, m and n being digits, m not above n, n not 0. */
    private static void countsOfARepeatEnd() {
        for (int m = 0; m <= 9; m++) {
            for (int n = 0; n <= 9; n++) {
                String text = "a{" + m + "," + n + "}";
                if (m <= n && n != 0) {
                    good(text, n);
                } else {
                    wrongAt(text, 4);
                }
            }
            if (m != 0) {
                good("a{" + m + "}", m);
            } else {
                wrongAt("a{" + m + "}", 3);
            }
        }
    }

    private static void countedTwiceEnd() {
        good("a{9}{1}{8,8}{1,1}{0,1}", 72);
        wrongAt("a{9}{0}", 6);
        wrongAt("a{9}{0,0}", 7);
        wrongAt("a{9}{2,1}", 7);
        wrongAt("(a{0})", 4);
        wrongAt("(){0}", 4);
        wrongAt("(){0,0}", 5);
    }

    private static void digitsEnd() {
        for (char c : new char[] {'0' - 1, '9' + 1, 'a', ',', '}', '{', '-', '+', ' '}) {
            wrongAt("a{" + c, 2);
            wrongAt("a{0," + c, 4);
        }
        for (char c : new char[] {'0', '9', '0' - 1, '9' + 1, ',' - 1, ',' + 1, '}' - 1, '}' + 1, '*'}) {
            wrongAt("a{1" + c, 3);
            wrongAt("a{1,2" + c, 5);
        }
        wrongAt("a{1,2,", 5);
    }

    /** Terms: an alternative is one row or more, a row is no, one or more repeats. */
    private static void rowsMayBeEmpty() {
        for (String text : new String[] {"", "|", "||", "()", "(|)", "(||)*", "()|()", "()()", "((|)|)",
            "|".repeat(100), "()".repeat(50), "(|)".repeat(33) + "|", "(".repeat(10) + ")".repeat(10)}) {
            good(text, 0);
            PathDesk desk = stairs();
            Check.load(desk, 3, text);
            Check.emptyRow("load of " + text, desk, 3);
        }
        good("|a", 1);
        good("a|", 1);
        good("(|a)", 1);
        good("(a|)", 1);
    }

    /** Terms: a repeat is an atom and then * or + or ? or { }. */
    private static void repeatsNeedAnAtom() {
        for (String mark : new String[] {"*", "+", "?", "{1}"}) {
            wrongAt(mark, 0);
            wrongAt("|" + mark, 1);
            wrongAt("a|" + mark, 2);
            wrongAt("(" + mark + ")", 1);
            wrongAt("a(" + mark + ")", 2);
            wrongAt("(a|" + mark + ")", 3);
            for (String step : STEPS) {
                good(step + mark, 1);
            }
            good("()" + mark, 0);
            good("(a)" + mark, 1);
        }
    }

    /** Terms: as often as one likes. */
    private static void repeatsAsOftenAsOneLikes() {
        for (String mark : new String[] {"*", "+", "?", "{1}", "{0,1}", "{1,1}", "*+?"}) {
            good("a" + mark.repeat(99 / mark.length()), 1);
            good("()" + mark.repeat(98 / mark.length()), 0);
        }
    }

    /** Terms: ( alternative ), at most 10 of which are open at once. */
    private static void groupsEndAt10() {
        for (int open = 1; open <= 10; open++) {
            good("(".repeat(open) + "a" + ")".repeat(open), 1);
            wantsMore("(".repeat(open));
            wrongAt("(".repeat(open) + ")".repeat(open + 1), 2 * open);
        }
        String ten = "(".repeat(10);
        wrongAt(ten + "(", 10);
        wrongAt(ten + "(" + ")".repeat(11), 10);
        wrongAt(ten + "a(", 11);
        wrongAt(ten + "|(", 11);
        wrongAt(ten + "a*(", 12);
        wrongAt("a|" + ten + "(", 12);
        wrongAt("a(".repeat(11), 21);
        wrongAt("(a|".repeat(11), 30);
        good("(a|".repeat(10) + ")".repeat(10), 10);
    }

    private static void groupsOpenAndClose() {
        String ten = "(".repeat(10);
        String closed = ")".repeat(10);
        good((ten + closed).repeat(5), 0);
        good(ten + "a)(b)(c" + closed, 3);
        wrongAt(ten + "a)((", 13);
        wrongAt(ten + closed + ten + "(", 30);
        wrongAt(ten + closed + ")", 20);
        wrongAt("()".repeat(20) + ten + "(", 50);
        good("(".repeat(9) + "()".repeat(4) + ")".repeat(9), 0);
        PathDesk desk = new PathDesk();
        Check.due("ten stay open", 11, () -> Check.load(desk, 0, ten));
        Check.due("none is open in the next load", 0, () -> Check.load(desk, 0, ten + closed));
        Check.due("none to close in the next load", 1, () -> Check.load(desk, 0, ")"));
    }

    /** Promise 6: -2 when there are more than 80 steps. Terms: letters and dots, with or without ^, and tests. */
    private static void stepsEndAt80() {
        good("a".repeat(79), 79);
        good("a".repeat(80), 80);
        tooMany("a".repeat(81));
        tooMany("a".repeat(100));
        good(".".repeat(80) + "*".repeat(20), 80);
        tooMany(".".repeat(81) + "*".repeat(19));
        good("a".repeat(40) + "|" + "b".repeat(40), 80);
        tooMany("a".repeat(40) + "|" + "b".repeat(41));
        for (String step : STEPS) {
            good(step.repeat(2) + "a".repeat(78), 80);
            tooMany(step.repeat(2) + "a".repeat(79));
            tooMany("a".repeat(79) + step.repeat(2));
        }
        PathDesk desk = stairs();
        Check.load(desk, 0, "a".repeat(81));
        Check.emptyRow("after 81 steps", desk, 0);
    }

    /** Terms: of what stands ahead of { } there are n copies. */
    private static void stepsOfCopiesEndAt80() {
        for (String step : STEPS) {
            good(step + "{9}{8}" + step + "{8}", 80);
            tooMany(step + "{9}{8}" + step + "{9}");
            tooMany(step + "{9}{9}");
            good(step + "{0,9}{1,8}" + step + "{8,8}", 80);
            tooMany(step + "{0,9}{1,8}" + step + "{0,9}");
        }
        good("a{8}*{5}+{2}?", 80);
        tooMany("a{8}*{5}+{2}?b");
        good("a{2}{2}{2}{2}{5}", 80);
        tooMany("a{3}{3}{3}{3}");
        good("ab{9}{8}c{7}", 80);
        tooMany("ab{9}{8}c{8}");
    }

    private static void stepsOfGroupsEndAt80() {
        good("(a{9}{8}a{8})*", 80);
        good("(a{9}{8}a{8}){1}", 80);
        good("(a{9}{8}a{8}){0,1}", 80);
        tooMany("(a{9}{8}a{8}){2}");
        tooMany("(a{9}{8}a{8}){0,2}");
        tooMany("(a{9}{8}a{8})*a");
        tooMany("(a{9}{8}a{8})|[0]");
        good("(a{8}|[1]{2}){8}", 80);
        tooMany("(a{8}|[1]{2}){8}|[1]");
        good("(a(a(a(a(a){2}){2}){2}){2}){2}aaaaaaaaaaaaaaaaaa", 80);
        tooMany("(a(a(a(a(a){2}){2}){2}){2}){2}aaaaaaaaaaaaaaaaaaa");
        good("((((((((((a{8}){5})))))))){2})", 80);
        tooMany("((((((((((a{9}){3})))))))){3})");
        good("(){9}{9}{9}a{9}{8}a{8}", 80);
        tooMany("(){9}{9}{9}a{9}{8}a{9}");
    }

    /** However many copies of copies there are, a number that runs over must not look small. */
    private static void stepsDoNotWrapRound() {
        for (int eights = 2; eights <= 30; eights++) {
            String many = "a" + "{8}".repeat(eights);
            tooMany(many + "{2}");
            tooMany(many + "{4}");
            tooMany(many + "{8}");
            tooMany("(" + many + "){2}*");
        }
        tooMany("a" + "{9}".repeat(33));
        tooMany("a{8}{8}{8}{8}{8}{8}{8}{8}{8}{8}{4}a");
        tooMany("(a{8}{8}{8}{8}{8}{8}{8}{8}{8}{8}{2}){2}");
        tooMany("(" + "a{8}{8}{8}{8}{8}{8}{8}{8}{8}{8}{2}".repeat(2) + ")");
        tooMany("a" + "{8}".repeat(21) + "{2}");
        tooMany("a" + "{8}".repeat(21) + "{2}a");
    }

    /** Promise 6: -2 only without such a one. */
    private static void wrongOnesComeAheadOfSteps() {
        wrongAt("a".repeat(81) + ")", 81);
        wrongAt("a".repeat(99) + ")", 99);
        wantsMore("a".repeat(81) + "(");
        wantsMore("a".repeat(99) + "(");
        wrongAt("a{9}{9}{0}", 9);
        wrongAt("a{9}{9}{9}{9})", 13);
        wantsMore("a{9}{9}{9}{9}^");
        wantsMore("(a{9}{9}");
        wrongAt("(".repeat(10) + "a{9}{9}(", 17);
    }
}
