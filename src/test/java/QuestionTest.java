/** Promises 7 to 12 with ordinary calls: reach, distance, span, pairs, circle, best; and what each kind of step matches. */
public final class QuestionTest {
    private QuestionTest() {
    }

    public static void main(String[] args) {
        stepsMatch();
        repeatsMatch();
        countedRepeatsMatch();
        rowsAndAlternativesMatch();
        nodesWithAllAsTargets();
        reachAnswers();
        distanceAnswers();
        distanceTakesTheShortest();
        longDistances();
        spanAnswers();
        pairsAnswer();
        circleAnswers();
        bestAnswers();
        answersFollowTheStore();
        Check.end();
    }

    /** 0 a 1 a 2 b 3 c 0, 2 a 2, tag 1 on 2. */
    private static PathDesk small() {
        PathDesk desk = new PathDesk();
        desk.edge(0, 0, 1);
        desk.edge(1, 0, 2);
        desk.edge(2, 1, 3);
        desk.edge(3, 2, 0);
        desk.edge(2, 0, 2);
        desk.tag(2, 1, true);
        return desk;
    }

    /** A row of nodes, each with an edge a to the next. */
    private static PathDesk row(int nodes) {
        PathDesk desk = new PathDesk();
        for (int node = 0; node + 1 < nodes; node++) {
            desk.edge(node, 0, node + 1);
        }
        return desk;
    }

    private static void reached(PathDesk desk, String text, int node, int... nodes) {
        Check.due("load of " + text, 0, () -> Check.load(desk, 0, text));
        Check.due(text + " from " + node, Check.nodes(nodes), () -> desk.reach(0, node, false));
    }

    private static void stepsMatch() {
        PathDesk desk = small();
        reached(desk, "a", 0, 1);
        reached(desk, "a", 2, 2);
        reached(desk, "b", 0);
        reached(desk, ".", 2, 2, 3);
        reached(desk, ".", 4);
        reached(desk, "^a", 2, 1, 2);
        reached(desk, "^a", 0);
        reached(desk, "^c", 0, 3);
        reached(desk, "^.", 3, 2);
        reached(desk, "^.", 2, 1, 2);
        reached(desk, "[1]", 2, 2);
        reached(desk, "[1]", 1);
        reached(desk, "[0]", 2);
        reached(desk, "[!1]", 2);
        reached(desk, "[!1]", 1, 1);
        reached(desk, "[!1]", 31, 31);
        desk.edge(7, 7, 31);
        reached(desk, "h", 7, 31);
        reached(desk, "^h", 31, 7);
    }

    private static void repeatsMatch() {
        PathDesk desk = small();
        reached(desk, "a*", 0, 0, 1, 2);
        reached(desk, "a+", 0, 1, 2);
        reached(desk, "a?", 0, 0, 1);
        reached(desk, "a*", 9, 9);
        reached(desk, "a+", 9);
        reached(desk, "a?", 9, 9);
        reached(desk, ".+", 0, 0, 1, 2, 3);
        reached(desk, "(ab)+", 1, 3);
        reached(desk, "(ab)*", 1, 1, 3);
        reached(desk, "a+?", 9, 9);
        reached(desk, "a?+", 0, 0, 1, 2);
        reached(desk, "(a^a)*", 1, 1, 2);
        reached(desk, "^a*", 2, 0, 1, 2);
        reached(desk, "[1]*", 0, 0);
        reached(desk, "[1]+", 0);
        reached(desk, "[1]?", 0, 0);
        reached(desk, "(a[!1])*", 0, 0, 1);
    }

    private static void countedRepeatsMatch() {
        PathDesk desk = row(32);
        reached(desk, "a{1}", 0, 1);
        reached(desk, "a{3}", 0, 3);
        reached(desk, "a{9}", 22, 31);
        reached(desk, "a{9}", 23);
        reached(desk, "a{0,1}", 0, 0, 1);
        reached(desk, "a{0,3}", 0, 0, 1, 2, 3);
        reached(desk, "a{2,4}", 0, 2, 3, 4);
        reached(desk, "a{4,4}", 0, 4);
        reached(desk, "a{2}{3}", 0, 6);
        reached(desk, "a{2,3}{2}", 0, 4, 5, 6);
        reached(desk, "(a{3}){0,2}", 0, 0, 3, 6);
        reached(desk, "ab{2}", 0);
        reached(desk, "(aa){2}", 0, 4);
        reached(desk, "a{3}^a{2}", 0, 1);
        reached(desk, "a{5}*", 20, 20, 25, 30);
        reached(desk, "a{5}+", 20, 25, 30);
        reached(desk, "a{5}?", 20, 20, 25);
        reached(desk, "a+{2}", 28, 30, 31);
        reached(desk, "a{9}{8}a{8}", 0);
        reached(desk, "((a{2}){2}){2}", 0, 8);
        reached(desk, "((((((((((a{2,3}))))))))))", 0, 2, 3);
        reached(desk, "a(".repeat(10) + "a{2,3}" + ")".repeat(10), 0, 12, 13);
        desk.edge(31, 0, 0);
        reached(desk, "a{9}{8}a{8}", 0, 80 % 32);
    }

    private static void rowsAndAlternativesMatch() {
        PathDesk desk = small();
        reached(desk, "aab", 0, 3);
        reached(desk, "ba", 2);
        reached(desk, "a|b", 2, 2, 3);
        reached(desk, "ab|ca", 1, 3);
        reached(desk, "ab|ca", 3, 1);
        reached(desk, "a|", 0, 0, 1);
        reached(desk, "|a", 0, 0, 1);
        reached(desk, "|", 0, 0);
        reached(desk, "(a|b|c)+", 4);
        reached(desk, "a(a|)b", 0, 3);
        reached(desk, "a(a|)b", 1, 3);
        reached(desk, "()a()", 0, 1);
        reached(desk, "((((((((((a|b))))))))))", 2, 2, 3);
        reached(desk, "(a|(b|(c|(.|(a|(b|(c|(a|(b|(c|a))))))))))", 2, 2, 3);
        reached(desk, "a(a(b(c(a(a(b(c(a(a(b))))))))))", 0, 3);
        reached(desk, "a*[1]b", 0, 3);
        reached(desk, "a*[!1]b", 0);
        reached(desk, "|".repeat(99) + "b", 2, 2, 3);
        reached(desk, "()".repeat(49) + "ab", 1, 3);
        reached(desk, "a|".repeat(49) + "ab", 1, 2, 3);
    }

    private static void nodesWithAllAsTargets() {
        PathDesk desk = new PathDesk();
        for (int node = 0; node < 32; node++) {
            desk.edge(5, 0, node);
        }
        desk.edge(31, 1, 0);
        Check.load(desk, 0, "a");
        Check.due("a to all", -1, () -> desk.reach(0, 5, false));
        Check.load(desk, 0, "ab");
        Check.due("by way of the last of all", Check.nodes(0), () -> desk.reach(0, 5, false));
        Check.load(desk, 0, "a+");
        Check.due("a+ to all", -1, () -> desk.reach(0, 5, false));
        Check.load(desk, 0, "^a");
        Check.due("^a from the last of all", Check.nodes(5), () -> desk.reach(0, 31, false));
    }

    /** Promise 7. */
    private static void reachAnswers() {
        PathDesk desk = small();
        Check.load(desk, 2, "ab?");
        Check.due("from 1", Check.nodes(2, 3), () -> desk.reach(2, 1, false));
        Check.due("to 3", Check.nodes(1, 2), () -> desk.reach(2, 3, true));
        Check.due("to 2", Check.nodes(1, 2), () -> desk.reach(2, 2, true));
        Check.due("to 0", 0, () -> desk.reach(2, 0, true));
        Check.load(desk, 1, "c?a*");
        Check.due("from 0 and others to 1", Check.nodes(0, 1, 3), () -> desk.reach(1, 1, true));
        Check.due("an empty row to 31", Check.nodes(31), () -> desk.reach(0, 31, true));
    }

    /** Promise 8. */
    private static void distanceAnswers() {
        PathDesk desk = small();
        Check.load(desk, 0, "a*[1]b");
        Check.due("0 to 3", 3, () -> desk.distance(0, 0, 3));
        Check.due("2 to 3", 1, () -> desk.distance(0, 2, 3));
        Check.due("3 to 0", PathDesk.NONE, () -> desk.distance(0, 3, 0));
        Check.load(desk, 0, ".^.");
        Check.due("steps back are edges, too", 2, () -> desk.distance(0, 0, 0));
        Check.load(desk, 0, "[1][!0]");
        Check.due("tests are none", 0, () -> desk.distance(0, 2, 2));
        Check.due("an empty row", 0, () -> desk.distance(3, 31, 31));
        Check.due("an empty row to another", PathDesk.NONE, () -> desk.distance(3, 31, 30));
    }

    private static void distanceTakesTheShortest() {
        PathDesk desk = row(8);
        desk.edge(0, 1, 5);
        Check.load(desk, 0, "a*");
        Check.due("a* to 6", 6, () -> desk.distance(0, 0, 6));
        Check.load(desk, 0, "(a|b)*");
        Check.due("(a|b)* to 6", 2, () -> desk.distance(0, 0, 6));
        Check.due("(a|b)* to 4", 4, () -> desk.distance(0, 0, 4));
        Check.due("(a|b)* to itself", 0, () -> desk.distance(0, 0, 0));
        Check.load(desk, 0, "a{5}|b");
        Check.due("a{5}|b", 1, () -> desk.distance(0, 0, 5));
        Check.load(desk, 0, "b|a{5}");
        Check.due("b|a{5}", 1, () -> desk.distance(0, 0, 5));
        Check.load(desk, 0, "b^a|b^a^aa");
        Check.due("b^a|b^a^aa", 2, () -> desk.distance(0, 0, 4));
        Check.load(desk, 0, "(.|^.)+");
        Check.due("there and back", 2, () -> desk.distance(0, 3, 3));
        Check.due("not by way of 0", 3, () -> desk.distance(0, 3, 6));
        Check.due("by way of 0", 2, () -> desk.distance(0, 1, 5));
        Check.due("by way of 0 and 5", 3, () -> desk.distance(0, 1, 6));
    }

    private static void longDistances() {
        PathDesk desk = row(32);
        desk.edge(31, 0, 0);
        Check.load(desk, 0, "(a{9}{8}a{7})*");
        Check.due("the last of the ring", 31 * 79, () -> desk.distance(0, 0, 31 * 79 % 32));
        Check.due("the span of the ring", 31 * 79, () -> desk.span(0));
        Check.load(desk, 0, "(a{9}{8}a{7})+");
        Check.due("once more to itself", 32 * 79, () -> desk.distance(0, 0, 0));
        Check.due("the span with it", 32 * 79, () -> desk.span(0));
    }

    /** Promise 9. */
    private static void spanAnswers() {
        PathDesk desk = row(32);
        Check.due("an empty row", 0, () -> desk.span(1));
        Check.load(desk, 0, "a*");
        Check.due("a*", 31, () -> desk.span(0));
        Check.load(desk, 0, "^a*");
        Check.due("^a*, the other way", 31, () -> desk.span(0));
        Check.load(desk, 0, "a{0,7}");
        Check.due("a{0,7}", 7, () -> desk.span(0));
        Check.load(desk, 0, "b");
        Check.due("no pairs", PathDesk.NONE, () -> desk.span(0));
        Check.load(desk, 0, "[!0]");
        Check.due("tests alone", 0, () -> desk.span(0));
        desk.edge(0, 1, 31);
        Check.load(desk, 0, "(a|b)*");
        Check.due("a shorter way for one pair", 30, () -> desk.span(0));
    }

    /** Promise 10. */
    private static void pairsAnswer() {
        PathDesk desk = small();
        Check.load(desk, 0, "a");
        Check.load(desk, 1, "a*");
        Check.load(desk, 2, "^a");
        Check.load(desk, 3, "b|c");
        Check.due("a", 3, () -> desk.pairs(0, 3, 0));
        Check.due("a*", 35, () -> desk.pairs(1, 1, 0));
        Check.due("a and a*", 3, () -> desk.pairs(0, 1, 1));
        Check.due("a and ^a", 1, () -> desk.pairs(0, 2, 1));
        Check.due("a and b|c", 0, () -> desk.pairs(0, 3, 1));
        Check.due("a without a*", 0, () -> desk.pairs(0, 1, 2));
        Check.due("a* without a", 32, () -> desk.pairs(1, 0, 2));
        Check.due("a without ^a", 2, () -> desk.pairs(0, 2, 2));
        Check.due("a without itself", 0, () -> desk.pairs(0, 0, 2));
        Check.due("a turned in ^a", 3, () -> desk.pairs(0, 2, 3));
        Check.due("a turned in a", 1, () -> desk.pairs(0, 0, 3));
        Check.due("a turned in a*", 1, () -> desk.pairs(0, 1, 3));
        Check.due("a, then b|c", 2, () -> desk.pairs(0, 3, 4));
        Check.due("b|c, then a", 1, () -> desk.pairs(3, 0, 4));
        Check.due("a, then a", 3, () -> desk.pairs(0, 0, 4));
        Check.due("a, then ^a", 5, () -> desk.pairs(0, 2, 4));
        Check.due("a*, then b|c", 4, () -> desk.pairs(1, 3, 4));
    }

    /** Promise 11. */
    private static void circleAnswers() {
        PathDesk desk = row(32);
        Check.due("an empty row", 0, () -> desk.circle(0));
        Check.load(desk, 0, "a+");
        Check.due("a row of nodes", PathDesk.NONE, () -> desk.circle(0));
        desk.edge(31, 0, 31);
        Check.due("the last node", 31, () -> desk.circle(0));
        desk.edge(20, 0, 10);
        Check.due("a ring", 10, () -> desk.circle(0));
        Check.load(desk, 0, "a{9}");
        Check.due("not round that ring", 31, () -> desk.circle(0));
        Check.load(desk, 0, "a{9}a{2}");
        Check.due("round that ring", 10, () -> desk.circle(0));
    }

    /** Promise 12. */
    private static void bestAnswers() {
        PathDesk desk = new PathDesk();
        Check.due("an empty row", 0, () -> desk.best(0));
        Check.load(desk, 0, "a");
        Check.due("no pairs", PathDesk.NONE, () -> desk.best(0));
        desk.edge(31, 0, 0);
        Check.due("one pair", 31, () -> desk.best(0));
        desk.edge(9, 0, 0);
        Check.due("the lowest of two", 9, () -> desk.best(0));
        desk.edge(20, 0, 0);
        desk.edge(20, 0, 1);
        Check.due("two pairs", 20, () -> desk.best(0));
        desk.edge(31, 0, 1);
        Check.due("the lowest with two", 20, () -> desk.best(0));
        desk.edge(31, 0, 31);
        Check.due("three pairs", 31, () -> desk.best(0));
        Check.load(desk, 0, "^a");
        Check.due("those that come in do not count", 0, () -> desk.best(0));
        desk.edge(31, 1, 1);
        Check.load(desk, 0, "a|b");
        desk.edge(20, 0, 2);
        Check.due("a pair counts once", 20, () -> desk.best(0));
    }

    /** A relation is that of the edges and tags that are there when it is asked. */
    private static void answersFollowTheStore() {
        PathDesk desk = new PathDesk();
        for (int s = 0; s < 4; s++) {
            int slot = s;
            Check.load(desk, slot, "a*[0]");
            Check.due("no tag yet", 0, () -> desk.pairs(slot, slot, 0));
            desk.tag(1, 0, true);
            Check.due("a tag", 1, () -> desk.pairs(slot, slot, 0));
            desk.edge(0, 0, 1);
            Check.due("an edge", 2, () -> desk.pairs(slot, slot, 0));
            desk.cut(0, 0, 1);
            Check.due("no edge", 1, () -> desk.pairs(slot, slot, 0));
            desk.tag(1, 0, false);
            Check.due("no tag", 0, () -> desk.pairs(slot, slot, 0));
            Check.load(desk, slot, "a?");
            Check.due("another expression", 32, () -> desk.pairs(slot, slot, 0));
        }
    }
}
