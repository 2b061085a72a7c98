import java.util.NoSuchElementException;
import java.util.function.Supplier;

/** Promises 10 to 14: a test of its own for each sentence, with the boundaries that it names. */
public final class ParseBoundaryTest {
    private static final Class<IllegalArgumentException> ARGUMENT = IllegalArgumentException.class;
    private static final Class<IllegalStateException> STATE = IllegalStateException.class;
    private static final Class<NoSuchElementException> ELEMENT = NoSuchElementException.class;
    private static final Class<UnsupportedOperationException> OVERFULL = UnsupportedOperationException.class;

    public static void main(String[] args) {
        tokensAreCounted();
        tokensStandBehindOthers();
        tokenWithoutTerminal();
        tokenBeyondForty();
        parseTellsTheNodes();
        parseMakesAttributesKnown();
        parseOfWhatIsNotBuilt();
        parseWithConflicts();
        parseOfWhatIsCircular();
        parseTakesTheTokens();
        parseBeyondOneHundredAndFiftyNodes();
        parseWithAllNodesOnTheStack();
        parseThatThrowsKeepsTheTree();
        parseWithAFault();
        faultFromTheFirstTokenToTheEnd();
        faultOfTheLastParse();
        faultBeforeAndWithout();
        nodeTellsSymbolAndRule();
        nodeTellsItsParent();
        nodeTellsWhichChildItIs();
        nodeThatIsNone();
        nodeByAnotherNumber();
        attributesOfTheLastTree();
        attributeOfNoNode();
        attributeThatIsNone();
        fiveHundredAndTwelveCalls();
        Check.end();
    }

    /** Rules for sums of 1, with the sign 2 to the left; each has its value in attribute 0. */
    private static GrammarWorks sums() {
        GrammarWorks x = new GrammarWorks();
        x.rule(8, 8, 2, 9, 0);
        x.rule(8, 9, 0, 0, 0);
        x.rule(9, 1, 0, 0, 0);
        x.equation(0, 0, 2, 10, 30);
        x.equation(1, 0, 1, 10, 0);
        x.equation(2, 0, 1, 10, 0);
        x.build();
        return x;
    }

    /** Promise 10: "Adds a token" and Promise 10: "answers how many there are." From 1 to 40, for each terminal. */
    private static void tokensAreCounted() {
        GrammarWorks x = new GrammarWorks();
        for (int k = 1; k <= 40; k++) {
            int number = k;
            Check.answers(k, () -> x.token(number % 6 + 1, number), "token " + k);
        }
    }

    /** Promise 10: "behind the others" - with the lowest and the highest value, built or not. */
    private static void tokensStandBehindOthers() {
        GrammarWorks x = new GrammarWorks();
        x.token(6, Edges.HIGHEST);
        x.rule(8, 6, 1, 6, 1);
        x.token(1, Edges.LOWEST);
        x.build();
        x.token(6, -1);
        x.token(1, 0);
        Check.answers(5, x::parse, "parse");
        long[] values = {Edges.HIGHEST, Edges.LOWEST, -1, 0};
        for (int k = 0; k < 4; k++) {
            int node = k;
            Check.answers(values[k], () -> x.attribute(node, 0), "value of token " + k);
            Check.answers(k, () -> x.attribute(node, 1), "number of token " + k);
        }
    }

    /** Promise 10: "IllegalArgumentException: no terminal." The end is none, nor is a nonterminal. */
    private static void tokenWithoutTerminal() {
        for (int k : Edges.NO_TERMINALS) {
            int no = k;
            Portrait.refusesAndKeeps(ARGUMENT, Portrait::busy, x -> x.token(no, 5), "token " + k);
        }
        GrammarWorks x = full();
        Check.refuses(ARGUMENT, () -> x.token(0, 5), "the end behind 40");
        Check.refuses(ARGUMENT, () -> x.token(7, 5), "a 7 behind 40");
        Check.refuses(ARGUMENT, () -> x.token(8, 5), "a nonterminal behind 40");
    }

    /** Forty tokens that make a sum, the last of which is missing. */
    private static GrammarWorks full() {
        GrammarWorks x = sums();
        for (int k = 0; k < 40; k++) {
            x.token(k % 2 + 1, k);
        }
        return x;
    }

    /** Promise 10: "IllegalStateException: 40 are there." When they are gone there is room for 40 again. */
    private static void tokenBeyondForty() {
        Portrait.refusesAndKeeps(STATE, ParseBoundaryTest::full, x -> x.token(1, 5), "a 41st token");
        GrammarWorks x = full();
        Check.refuses(STATE, () -> x.token(6, 5), "a 41st token");
        Check.refuses(ARGUMENT, x::parse, "the fault of 40 tokens");
        for (int k = 1; k <= 40; k++) {
            int due = k;
            Check.answers(k, () -> x.token(6, due), "token " + k + " behind a parse");
        }
        Check.refuses(STATE, () -> x.token(6, 5), "a 41st token behind a parse");
    }

    /** Promise 11: "Parses the tokens, and answers how many nodes the tree has" - from 1 to 150. */
    private static void parseTellsTheNodes() {
        GrammarWorks x = ParseTest.lists();
        Check.answers(1, x::parse, "no tokens");
        for (int k = 1; k <= 20; k++) {
            manyTokens(x, k, 0, 0);
            Check.answers(1 + 4 * k, x::parse, k + " tokens");
        }
        GrammarWorks most = ParseTest.lists();
        manyTokens(most, 36, 1, 1);
        Check.answers(150, most::parse, "the most nodes");
        manyTokens(most, 0, 0, 40);
        Check.answers(81, most::parse, "the most tokens");
    }

    private static void manyTokens(GrammarWorks x, int ones, int twos, int threes) {
        for (int k = 0; k < ones + twos + threes; k++) {
            x.token(k < ones ? 1 : k < ones + twos ? 2 : 3, k);
        }
    }

    /** Promise 11: "its attributes are known then." Also those of 150 nodes, each of which hangs on others. */
    private static void parseMakesAttributesKnown() {
        GrammarWorks x = ParseTest.lists();
        x.equation(0, 12, 2, 2, 20);
        x.equation(0, 0, 1, 10, 0);
        x.equation(5, 12, 2, 2, 20);
        x.equation(5, 0, 1, 10, 0);
        x.equation(1, 0, 1, 2, 0);
        x.equation(2, 0, 1, 10, 0);
        x.equation(3, 0, 1, 10, 0);
        x.equation(4, 0, 1, 10, 0);
        x.build();
        manyTokens(x, 36, 1, 1);
        Check.answers(150, x::parse, "parse");
        Check.answers(37 * 38 / 2, () -> x.attribute(149, 0), "the sum of all, at the root");
        Check.answers(37 * 38 / 2, () -> x.attribute(0, 2), "and at the other end, where it comes down");
        Check.answers(0, () -> x.attribute(149, 2), "nothing comes down to the root");
        Check.answers(37, () -> x.attribute(147, 2), "the last value comes to its neighbour");
    }

    /** Two numbers with a sign between them, waiting for something to be built. */
    private static GrammarWorks unbuilt() {
        GrammarWorks x = sums();
        Portrait.give(x, 1, 4);
        x.parse();
        Portrait.give(x, 2, 4);
        Check.refuses(ARGUMENT, x::parse, "a fault before");
        x.level(1, 0, 0);
        Portrait.give(x, 1, 20, 2, 0, 1, 22);
        return x;
    }

    /** Promise 11: "IllegalStateException: nothing is built" - the tokens stay, and can be parsed then. */
    private static void parseOfWhatIsNotBuilt() {
        Portrait.refusesAndKeeps(STATE, GrammarWorks::new, GrammarWorks::parse, "parse of a new object");
        Portrait.refusesAndKeeps(STATE, ParseBoundaryTest::unbuilt, GrammarWorks::parse, "parse, not built");
        GrammarWorks x = unbuilt();
        Check.refuses(STATE, x::parse, "parse, not built");
        x.build();
        Check.answers(7, x::parse, "parse, built");
        Check.answers(42, () -> x.attribute(6, 0), "of the tokens that stayed");
    }

    private static GrammarWorks conflicting() {
        GrammarWorks x = unbuilt();
        x.rule(9, 9, 3, 9, 0);
        x.build();
        Check.answers(1, () -> x.count(3), "one conflict");
        return x;
    }

    /** Promise 11: "there are conflicts" - one is enough, wherever it is, also before tokens that have a fault. */
    private static void parseWithConflicts() {
        Portrait.refusesAndKeeps(STATE, ParseBoundaryTest::conflicting, GrammarWorks::parse, "parse with a conflict");
        Supplier<GrammarWorks> wrong = () -> {
            GrammarWorks x = conflicting();
            x.token(1, 1);
            return x;
        };
        Portrait.refusesAndKeeps(STATE, wrong, GrammarWorks::parse, "parse with a conflict and a fault");
        GrammarWorks x = conflicting();
        Check.refuses(STATE, x::parse, "parse with a conflict");
        x.level(3, 1, 2);
        x.build();
        Check.answers(7, x::parse, "nothing left is no conflict");
        Check.answers(42, () -> x.attribute(6, 0), "and the tokens stayed");
    }

    private static GrammarWorks circular() {
        GrammarWorks x = unbuilt();
        x.rule(13, 0, 0, 0, 0);
        x.equation(3, 0, 1, 0, 0);
        x.build();
        return x;
    }

    /** Promise 11: "or the grammar is circular (the tokens stay)." Also if the ring is in no tree of the start. */
    private static void parseOfWhatIsCircular() {
        Portrait.refusesAndKeeps(STATE, ParseBoundaryTest::circular, GrammarWorks::parse, "parse of what is circular");
        GrammarWorks x = circular();
        Check.refuses(STATE, x::parse, "parse of what is circular");
        Check.answers(3, () -> x.count(6), "the tokens stay");
        x.equation(3, 0, 1, 1, 0);
        x.build();
        Check.answers(7, x::parse, "parse of what is not");
        Check.answers(42, () -> x.attribute(6, 0), "of the tokens that stayed");
    }

    /** Promise 11: "Else there are no tokens any more" - behind a tree, a fault, and too many nodes. */
    private static void parseTakesTheTokens() {
        GrammarWorks x = sums();
        x.token(1, 1);
        x.parse();
        Check.answers(0, () -> x.count(6), "behind a tree");
        Portrait.give(x, 1, 1, 1, 2, 1, 3);
        Check.refuses(ARGUMENT, x::parse, "a fault");
        Check.answers(0, () -> x.count(6), "behind a fault, also those behind it");
        Check.answers(1, () -> x.token(1, 9), "the next is the first");
        Check.answers(3, x::parse, "and is parsed alone");
        Check.answers(9, () -> x.attribute(0, 0), "with its value");
        GrammarWorks lists = ParseTest.lists();
        manyTokens(lists, 40, 0, 0);
        Check.refuses(OVERFULL, lists::parse, "too many nodes");
        Check.answers(0, () -> lists.count(6), "behind too many nodes");
        Check.answers(1, lists::parse, "and nothing is parsed then");
    }

    /**
     * Promise 11: "UnsupportedOperationException: a 151st node would have to be made." For a token, for a rule with
     * children or without; 150 nodes are not too many, nor is a fault, or the end, behind them.
     */
    private static void parseBeyondOneHundredAndFiftyNodes() {
        GrammarWorks x = ParseTest.lists();
        manyTokens(x, 36, 1, 1);
        Check.answers(150, x::parse, "the end behind 150");
        manyTokens(x, 36, 1, 2);
        Check.refuses(OVERFULL, x::parse, "a 151st for a token");
        manyTokens(x, 37, 0, 1);
        Check.refuses(OVERFULL, x::parse, "a 151st for a rule");
        GrammarWorks fault = ParseTest.lists();
        manyTokens(fault, 36, 1, 1);
        fault.token(6, 0);
        Check.refuses(ARGUMENT, fault::parse, "a fault behind 150");
        manyTokens(fault, 37, 0, 2);
        fault.token(6, 0);
        Check.refuses(OVERFULL, fault::parse, "a 151st before a fault");
        GrammarWorks empty = emptyBehind();
        manyTokens(empty, 1, 36, 0);
        Check.answers(150, empty::parse, "150, the last but one without children");
        manyTokens(empty, 3, 35, 0);
        Check.refuses(OVERFULL, empty::parse, "a 151st for a rule without children");
    }

    /** A 2 makes 4 nodes and a 1 makes 3; before all is one without children, behind all another, and the root. */
    private static GrammarWorks emptyBehind() {
        GrammarWorks x = new GrammarWorks();
        x.rule(8, 9, 10, 0, 0);
        x.rule(9, 9, 11, 0, 0);
        x.rule(9, 0, 0, 0, 0);
        x.rule(11, 12, 0, 0, 0);
        x.rule(12, 2, 0, 0, 0);
        x.rule(11, 1, 0, 0, 0);
        x.rule(10, 0, 0, 0, 0);
        x.build();
        return x;
    }

    /** Promise 11: "a 151st node would have to be made": with 150 before it that all wait for their parents. */
    private static void parseWithAllNodesOnTheStack() {
        GrammarWorks x = new GrammarWorks();
        x.rule(13, 3, 8, 0, 0);
        x.rule(8, 1, 9, 9, 10);
        x.rule(10, 9, 9, 9, 8);
        x.rule(8, 2, 0, 0, 0);
        x.rule(9, 0, 0, 0, 0);
        x.build();
        Check.answers(0, () -> x.count(3), "no conflicts");
        x.token(3, 0);
        manyTokens(x, 25, 1, 0);
        Check.refuses(OVERFULL, x::parse, "150 on the stack");
        Check.answers(-1, x::fault, "and no fault");
        x.token(3, 0);
        manyTokens(x, 18, 1, 0);
        Check.answers(1 + 18 * 8 + 3, x::parse, "109 on the stack");
        int root = x.count(5) - 1;
        Check.answers(-1, () -> x.node(root, 2), "the root");
        Check.answers(root, () -> x.node(0, 2), "its first child");
        Check.answers(root, () -> x.node(root - 1, 2), "its last child");
    }

    /** Promise 11: "and, if it throws, the tree before stays" - or there is none still. */
    private static void parseThatThrowsKeepsTheTree() {
        GrammarWorks none = ParseTest.lists();
        none.token(6, 0);
        Check.refuses(ARGUMENT, none::parse, "a fault before any tree");
        manyTokens(none, 40, 0, 0);
        Check.refuses(OVERFULL, none::parse, "too many nodes before any tree");
        Check.answers(0, () -> none.count(5), "there is no tree");
        Check.refuses(ELEMENT, () -> none.node(0, 0), "and no node");
        Check.refuses(ELEMENT, () -> none.attribute(0, 0), "and no attribute");
        GrammarWorks x = ParseTest.lists();
        manyTokens(x, 0, 0, 2);
        Check.answers(5, x::parse, "a tree");
        String due = Portrait.treeOf(x);
        manyTokens(x, 40, 0, 0);
        Check.refuses(OVERFULL, x::parse, "too many nodes");
        Check.compare(due, Portrait.treeOf(x), "the tree behind too many nodes");
        manyTokens(x, 5, 5, 5);
        x.token(6, 0);
        Check.refuses(ARGUMENT, x::parse, "a fault behind many nodes");
        Check.compare(due, Portrait.treeOf(x), "the tree behind a fault");
        manyTokens(x, 36, 1, 1);
        x.token(6, 0);
        Check.refuses(ARGUMENT, x::parse, "a fault behind 150 nodes");
        Check.compare(due, Portrait.treeOf(x), "the tree behind another");
    }

    /** Promise 11: "IllegalArgumentException: a fault." At the first token, the last, and the end. */
    private static void parseWithAFault() {
        GrammarWorks x = sums();
        Check.refuses(ARGUMENT, x::parse, "at the end of no tokens");
        x.token(2, 0);
        Check.refuses(ARGUMENT, x::parse, "at the first");
        Portrait.give(x, 1, 0, 2, 0, 2, 0);
        Check.refuses(ARGUMENT, x::parse, "at the last");
        Portrait.give(x, 1, 0, 2, 0);
        Check.refuses(ARGUMENT, x::parse, "at the end");
        Portrait.give(x, 1, 0, 2, 0, 1, 0);
        Check.answers(7, x::parse, "at none");
    }

    /** Promise 12: "The fault" - from 0, the first token, to 39, the last, and 40, the end. */
    private static void faultFromTheFirstTokenToTheEnd() {
        for (int k = 0; k <= 40; k++) {
            GrammarWorks x = sums();
            for (int t = 0; t < 40; t++) {
                x.token(t == k ? 6 : t % 2 + 1, t);
            }
            int fault = k;
            Check.refuses(ARGUMENT, x::parse, "parse with a fault at " + k);
            Check.answers(fault, x::fault, "fault at " + k);
        }
    }

    /** Promise 12: "of the last parse that did not throw IllegalStateException" - it stays behind one that did. */
    private static void faultOfTheLastParse() {
        GrammarWorks x = sums();
        Portrait.give(x, 1, 0, 2, 0, 6, 0);
        Check.refuses(ARGUMENT, x::parse, "a fault");
        Check.answers(2, x::fault, "it is told");
        Check.answers(2, x::fault, "and told again");
        x.level(1, 0, 0);
        Check.answers(2, x::fault, "also when nothing is built");
        Check.refuses(STATE, x::parse, "nothing is built");
        Check.answers(2, x::fault, "behind a parse of nothing built");
        x.rule(9, 1, 0, 0, 0);
        x.build();
        Check.refuses(STATE, x::parse, "a conflict");
        Check.answers(2, x::fault, "behind a parse with conflicts");
        GrammarWorks ring = circular();
        Check.answers(0, ring::fault, "before a parse of what is circular");
        Check.refuses(STATE, ring::parse, "a ring");
        Check.answers(0, ring::fault, "behind a parse of what is circular");
        GrammarWorks good = sums();
        good.token(1, 0);
        good.parse();
        good.token(6, 0);
        good.level(1, 0, 0);
        Check.refuses(STATE, good::parse, "nothing is built");
        Check.answers(-1, good::fault, "behind a tree and a parse of nothing built");
        good.build();
        Check.refuses(ARGUMENT, good::parse, "a fault");
        Check.answers(0, good::fault, "of the last parse");
    }

    /** Promise 12: "-1 if it had none, or before." None has a tree, nor what has too many nodes. */
    private static void faultBeforeAndWithout() {
        GrammarWorks x = new GrammarWorks();
        Check.answers(-1, x::fault, "before");
        Check.refuses(STATE, x::parse, "nothing is built");
        Check.answers(-1, x::fault, "still before");
        GrammarWorks lists = ParseTest.lists();
        Check.answers(-1, lists::fault, "built, but before");
        lists.token(6, 0);
        Check.refuses(ARGUMENT, lists::parse, "a fault");
        Check.answers(0, lists::fault, "it had one");
        lists.parse();
        Check.answers(-1, lists::fault, "a tree had none");
        lists.token(6, 0);
        Check.refuses(ARGUMENT, lists::parse, "a fault");
        manyTokens(lists, 40, 0, 0);
        Check.refuses(OVERFULL, lists::parse, "too many nodes");
        Check.answers(-1, lists::fault, "what had too many nodes had none");
    }

    /** A root with four children: a 13 without children, tokens 1 and 6, and an 8 that is a root in itself. */
    private static GrammarWorks wide() {
        GrammarWorks x = new GrammarWorks();
        x.rule(8, 13, 1, 6, 8);
        x.rule(13, 0, 0, 0, 0);
        x.rule(8, 2, 0, 0, 0);
        x.equation(0, 42, 3, 2, 21);
        x.equation(0, 0, 4, 20, 40);
        x.equation(0, 1, 1, 41, 0);
        x.equation(0, 12, 5, 20, 30);
        x.equation(1, 1, 1, 2, 0);
        x.equation(2, 0, 1, 10, 0);
        x.equation(2, 1, 2, 2, 11);
        x.build();
        Portrait.give(x, 1, 3, 6, 4, 1, 5, 6, 5, 2, 7);
        Check.answers(10, x::parse, "the nodes of a wide tree");
        return x;
    }

    /** Promise 13: "Of a node of the last tree: its symbol (0), its rule, -1 for a token (1)": from 1 to 13, from 0 on. */
    private static void nodeTellsSymbolAndRule() {
        GrammarWorks x = wide();
        int[] symbols = {13, 1, 6, 13, 1, 6, 2, 8, 8, 8};
        int[] rules = {1, -1, -1, 1, -1, -1, -1, 2, 0, 0};
        for (int k = 0; k < 10; k++) {
            int node = k;
            Check.answers(symbols[k], () -> x.node(node, 0), "symbol of node " + k);
            Check.answers(rules[k], () -> x.node(node, 1), "rule of node " + k);
        }
        GrammarWorks last = TableTest.broad(6);
        last.build();
        Portrait.give(last, 6, 0, 4, 0, 1, 0, 1, 0);
        last.parse();
        Check.answers(13, () -> last.node(4, 1), "the last rule");
    }

    /** Promise 13: "the number of its parent, -1 for the root (2)" - the root is the last node. */
    private static void nodeTellsItsParent() {
        GrammarWorks x = wide();
        int[] parents = {9, 9, 9, 8, 8, 8, 7, 8, 9, -1};
        GrammarWorks lists = ParseTest.lists();
        manyTokens(lists, 36, 1, 1);
        lists.parse();
        Check.answers(-1, () -> lists.node(149, 2), "the root of 150 nodes");
        Check.answers(149, () -> lists.node(148, 2), "its last child");
        Check.answers(-1, () -> single().node(0, 2), "a root alone");
        for (int k = 0; k < x.count(5); k++) {
            int node = k;
            Check.answers(parents[k], () -> x.node(node, 2), "parent of node " + k);
        }
    }

    private static GrammarWorks single() {
        GrammarWorks x = new GrammarWorks();
        x.rule(13, 0, 0, 0, 0);
        x.build();
        x.parse();
        return x;
    }

    /** Promise 13: "which child it is, from 1 on, 0 for the root (3)." Up to 4. */
    private static void nodeTellsWhichChildItIs() {
        GrammarWorks x = wide();
        int[] numbers = {1, 2, 3, 1, 2, 3, 1, 4, 4, 0};
        for (int k = 0; k < x.count(5); k++) {
            int node = k;
            Check.answers(numbers[k], () -> x.node(node, 3), "which child node " + k + " is");
        }
        Check.answers(0, () -> single().node(0, 3), "a root alone");
    }

    /** Promise 13: "NoSuchElementException: no such node." The last is one less than there are; before all else. */
    private static void nodeThatIsNone() {
        for (int k : Edges.outside(0, 1)) {
            int no = k;
            Portrait.refusesAndKeeps(ELEMENT, Portrait::busy, x -> x.node(no, 0), "node " + k);
            Portrait.refusesAndKeeps(ELEMENT, Portrait::busy, x -> x.node(no, 4), "node by 4 " + k);
        }
        GrammarWorks x = ParseTest.lists();
        Check.refuses(ELEMENT, () -> x.node(0, 0), "node 0 of no tree");
        manyTokens(x, 36, 1, 1);
        Check.refuses(ELEMENT, () -> x.node(0, 0), "node 0 of a tree to come");
        x.parse();
        Check.answers(8, () -> x.node(149, 0), "node 149");
        Check.refuses(ELEMENT, () -> x.node(150, 0), "node 150");
        x.parse();
        Check.refuses(ELEMENT, () -> x.node(1, 0), "what was a node of the tree before");
    }

    /** Promise 13: "IllegalArgumentException: another number." 0 and 3 are the last by which it tells. */
    private static void nodeByAnotherNumber() {
        for (int k : Edges.outside(0, 3)) {
            for (int n = 0; n <= 1; n++) {
                int no = k;
                int node = n;
                Portrait.refusesAndKeeps(ARGUMENT, Portrait::busy, x -> x.node(node, no), "node " + n + " by " + k);
            }
        }
    }

    /** Promise 14: "An attribute of a node of the last tree." Of its first and its last node, from 0 to 2. */
    private static void attributesOfTheLastTree() {
        GrammarWorks x = wide();
        long[][] due = {{0, 1, 1}, {3, 0, 0}, {4, 1, 0}};
        for (int n = 0; n < 3; n++) {
            for (int a = 0; a <= 2; a++) {
                int node = n;
                int attribute = a;
                Check.answers(due[n][a], () -> x.attribute(node, attribute), "attribute " + a + " of node " + n);
            }
        }
        x.token(2, -9);
        x.parse();
        Check.answers(-9, () -> x.attribute(1, 0), "of the last tree's last node");
        Check.answers(0, () -> x.attribute(0, 1), "of the last tree's first node");
        GrammarWorks lists = ParseTest.lists();
        lists.equation(5, 1, 0, -5, 0);
        lists.build();
        manyTokens(lists, 36, 1, 1);
        lists.parse();
        Check.answers(-5, () -> lists.attribute(149, 1), "of node 149");
    }

    /** Promise 14: "NoSuchElementException: no such node." The last is one less than there are; before all else. */
    private static void attributeOfNoNode() {
        for (int k : Edges.outside(0, 1)) {
            int no = k;
            Portrait.refusesAndKeeps(ELEMENT, Portrait::busy, x -> x.attribute(no, 0), "attribute of node " + k);
            Portrait.refusesAndKeeps(ELEMENT, Portrait::busy, x -> x.attribute(no, 3), "attribute 3 of node " + k);
        }
        GrammarWorks x = ParseTest.lists();
        Check.refuses(ELEMENT, () -> x.attribute(0, 0), "attribute of node 0 of no tree");
        manyTokens(x, 36, 1, 1);
        x.parse();
        Check.answers(0, () -> x.attribute(149, 2), "attribute of node 149");
        Check.refuses(ELEMENT, () -> x.attribute(150, 0), "attribute of node 150");
        x.parse();
        Check.refuses(ELEMENT, () -> x.attribute(1, 0), "attribute of a node of the tree before");
    }

    /** Promise 14: "IllegalArgumentException: not 0 .. 2." Of a token or of a rule's node. */
    private static void attributeThatIsNone() {
        for (int k : Edges.outside(0, 2)) {
            for (int n = 0; n <= 1; n++) {
                int no = k;
                int node = n;
                String what = "attribute " + k + " of node " + n;
                Portrait.refusesAndKeeps(ARGUMENT, Portrait::busy, x -> x.attribute(node, no), what);
            }
        }
    }

    /** An object is used for 512 calls, "at most": the last of them answers as the first, also behind much refused. */
    private static void fiveHundredAndTwelveCalls() {
        GrammarWorks x = new GrammarWorks();
        int calls = 0;
        for (int round = 0; round < 42; round++) {
            int value = round;
            Check.answers(round == 0 ? 0 : 2, x::clear, "clear in round " + round);
            Check.answers(0, () -> x.rule(8, 8, 2, 8, 0), "first rule in round " + round);
            Check.answers(1, () -> x.rule(8, 1, 0, 0, 0), "second rule in round " + round);
            Check.answers(0, () -> x.level(2, 9, 0), "level in round " + round);
            Check.answers(1, () -> x.equation(1, 0, 1, 10, 0), "equation in round " + round);
            Check.answers(5, x::build, "build in round " + round);
            Check.answers(1, () -> x.token(1, value), "token in round " + round);
            Check.answers(2, x::parse, "parse in round " + round);
            Check.answers(value, () -> x.attribute(1, 0), "attribute in round " + round);
            Check.answers(1, () -> x.token(6, value), "another token in round " + round);
            Check.refuses(ARGUMENT, x::parse, "another parse in round " + round);
            Check.answers(0, x::fault, "fault in round " + round);
            calls += 12;
        }
        while (calls < 511) {
            Check.answers(2, () -> x.count(0), "rules");
            calls++;
        }
        Check.answers(5, x::build, "the 512th call");
    }
}
