import java.util.NoSuchElementException;

/** Promises 10 to 14: tokens, parses, faults, trees and their attributes. */
public final class ParseTest {
    private static final Class<IllegalArgumentException> ARGUMENT = IllegalArgumentException.class;
    private static final Class<IllegalStateException> STATE = IllegalStateException.class;
    private static final Class<NoSuchElementException> ELEMENT = NoSuchElementException.class;
    private static final Class<UnsupportedOperationException> OVERFULL = UnsupportedOperationException.class;

    public static void main(String[] args) {
        tokens();
        treeOfATree();
        emptyTree();
        nodesRefused();
        parseRefused();
        conflictsRefuseTheParse();
        faults();
        treeStaysBehindAFault();
        oneHundredAndFiftyNodes();
        emptyRuleBeforeAToken();
        operations();
        resultsWrap();
        attributesOfTokens();
        attributesGoDown();
        attributesAreThoseOfTheParse();
        longChain();
        manyParses();
        Check.end();
    }

    private static GrammarWorks sums() {
        GrammarWorks x = new GrammarWorks();
        x.rule(8, 8, 2, 9, 0);
        x.rule(8, 9, 0, 0, 0);
        x.rule(9, 1, 0, 0, 0);
        x.build();
        return x;
    }

    private static void tokens() {
        GrammarWorks x = new GrammarWorks();
        int[] noTerminals = {Integer.MIN_VALUE, -1, 0, 7, 8, 13, Integer.MAX_VALUE};
        for (int terminal : noTerminals) {
            Check.refuses(ARGUMENT, () -> x.token(terminal, 1), "token " + terminal);
        }
        for (int k = 1; k <= 40; k++) {
            int number = k;
            Check.answers(number, () -> x.token(1 + number % 6, number), "token number " + k);
        }
        Check.refuses(STATE, () -> x.token(1, 1), "a 41st token");
        Check.refuses(ARGUMENT, () -> x.token(0, 1), "a 41st token that is no terminal");
        Check.answers(40, () -> x.count(6), "40 tokens");
        x.clear();
        Check.answers(1, () -> x.token(6, Integer.MIN_VALUE), "a token behind clear");
    }

    private static void treeOfATree() {
        GrammarWorks x = sums();
        x.token(1, 5);
        x.token(2, 6);
        x.token(1, 7);
        Check.answers(7, x::parse, "parse");
        Check.answers(7, () -> x.count(5), "nodes");
        int[][] facts = {
            {1, -1, 1, 1},
            {9, 2, 2, 1},
            {8, 1, 6, 1},
            {2, -1, 6, 2},
            {1, -1, 5, 1},
            {9, 2, 6, 3},
            {8, 0, -1, 0},
        };
        for (int k = 0; k < facts.length; k++) {
            for (int f = 0; f < 4; f++) {
                int node = k;
                int what = f;
                Check.answers(facts[k][f], () -> x.node(node, what), "node(" + k + ", " + f + ")");
            }
        }
    }

    private static void emptyTree() {
        GrammarWorks x = new GrammarWorks();
        x.rule(13, 0, 0, 0, 0);
        x.equation(0, 1, 0, -3, 0);
        x.build();
        Check.answers(1, x::parse, "parse of no tokens");
        Check.answers(13, () -> x.node(0, 0), "symbol");
        Check.answers(0, () -> x.node(0, 1), "rule");
        Check.answers(-1, () -> x.node(0, 2), "parent");
        Check.answers(0, () -> x.node(0, 3), "which child");
        Check.answers(-3, () -> x.attribute(0, 1), "attribute 1");
        Check.answers(-1, x::fault, "no fault");
        x.token(4, 4);
        Check.refuses(ARGUMENT, x::parse, "parse of a token");
        Check.answers(0, x::fault, "the fault is token 0");
    }

    private static void nodesRefused() {
        GrammarWorks x = sums();
        x.token(1, 5);
        x.parse();
        int[] noNodes = {Integer.MIN_VALUE, -1, 3, 150, 151, Integer.MAX_VALUE};
        for (int node : noNodes) {
            Check.refuses(ELEMENT, () -> x.node(node, 0), "node " + node);
            Check.refuses(ELEMENT, () -> x.node(node, -1), "node, both wrong, " + node);
            Check.refuses(ELEMENT, () -> x.attribute(node, 0), "attribute of node " + node);
            Check.refuses(ELEMENT, () -> x.attribute(node, 3), "attribute, both wrong, " + node);
        }
        int[] noFacts = {Integer.MIN_VALUE, -1, 4, 5, 8, Integer.MAX_VALUE};
        for (int what : noFacts) {
            Check.refuses(ARGUMENT, () -> x.node(0, what), "node's " + what);
        }
        int[] noAttributes = {Integer.MIN_VALUE, -1, 3, Integer.MAX_VALUE};
        for (int attribute : noAttributes) {
            Check.refuses(ARGUMENT, () -> x.attribute(0, attribute), "attribute " + attribute);
        }
    }

    private static void parseRefused() {
        GrammarWorks x = sums();
        x.token(2, 5);
        Check.refuses(ARGUMENT, x::parse, "a fault at token 0");
        x.token(1, 5);
        x.level(1, 0, 0);
        Check.refuses(STATE, x::parse, "nothing is built");
        Check.answers(1, () -> x.count(6), "the tokens stay");
        Check.answers(0, x::fault, "the fault stays");
        x.build();
        Check.answers(3, x::parse, "they are parsed then");
        Check.answers(0, () -> x.count(6), "there are none any more");
        Check.answers(-1, x::fault, "no fault");
    }

    private static void conflictsRefuseTheParse() {
        GrammarWorks x = sums();
        x.token(1, 5);
        x.parse();
        x.rule(9, 1, 0, 0, 0);
        x.build();
        x.token(3, 5);
        Check.refuses(STATE, x::parse, "a conflict");
        Check.answers(1, () -> x.count(6), "the tokens stay");
        Check.answers(3, () -> x.count(5), "the tree stays");
        Check.answers(-1, x::fault, "the fault stays");
    }

    private static void faults() {
        GrammarWorks x = sums();
        x.token(1, 5);
        x.token(1, 5);
        x.token(2, 5);
        Check.refuses(ARGUMENT, x::parse, "a token too many");
        Check.answers(1, x::fault, "fault at token 1");
        Check.answers(0, () -> x.count(6), "no tokens any more");
        Check.refuses(ARGUMENT, x::parse, "no tokens");
        Check.answers(0, x::fault, "fault at the end of none");
        x.token(1, 5);
        x.token(2, 5);
        Check.refuses(ARGUMENT, x::parse, "a token too few");
        Check.answers(2, x::fault, "fault at the end");
        x.token(1, 5);
        x.token(2, 5);
        x.token(6, 5);
        Check.refuses(ARGUMENT, x::parse, "a token of no rule");
        Check.answers(2, x::fault, "fault at token 2");
        x.token(1, 5);
        Check.answers(3, x::parse, "no fault");
        Check.answers(-1, x::fault, "and so it is told");
        GrammarWorks none = new GrammarWorks();
        none.rule(8, 8, 2, 8, 0);
        none.rule(8, 1, 0, 0, 0);
        none.level(2, 1, 2);
        none.build();
        for (int k = 0; k < 5; k++) {
            none.token(1 + k % 2, k);
        }
        Check.refuses(ARGUMENT, none::parse, "kind 2 leaves nothing");
        Check.answers(3, none::fault, "at the second sign");
    }

    private static void treeStaysBehindAFault() {
        GrammarWorks x = sums();
        x.equation(2, 0, 1, 10, 0);
        x.build();
        x.token(1, 5);
        x.parse();
        for (int k = 0; k < 6; k++) {
            x.token(1 + k % 2, 90 + k);
        }
        Check.refuses(ARGUMENT, x::parse, "a fault behind many nodes");
        Check.answers(6, x::fault, "at the end");
        Check.answers(3, () -> x.count(5), "the nodes stay");
        Check.answers(5, () -> x.attribute(1, 0), "their attributes stay");
        Check.answers(5, () -> x.attribute(0, 0), "those of tokens, too");
        Check.answers(1, () -> x.node(0, 2), "their parents stay");
        Check.answers(1, () -> x.node(0, 3), "their numbers as children stay");
        Check.answers(9, () -> x.node(1, 0), "their symbols stay");
        Check.answers(1, () -> x.node(2, 1), "their rules stay");
    }

    /** A 1 makes 4 nodes with 9, 10 and its part of the list, a 2 makes 3 and a 3 makes 2; the list's end makes one. */
    static GrammarWorks lists() {
        GrammarWorks x = new GrammarWorks();
        x.rule(8, 8, 9, 0, 0);
        x.rule(8, 0, 0, 0, 0);
        x.rule(9, 10, 0, 0, 0);
        x.rule(10, 1, 0, 0, 0);
        x.rule(9, 2, 0, 0, 0);
        x.rule(8, 8, 3, 0, 0);
        x.build();
        return x;
    }

    private static void manyTokens(GrammarWorks x, int ones, int twos, int threes) {
        for (int k = 0; k < ones + twos + threes; k++) {
            x.token(k < ones ? 1 : k < ones + twos ? 2 : 3, k);
        }
    }

    private static void oneHundredAndFiftyNodes() {
        GrammarWorks x = lists();
        manyTokens(x, 36, 1, 1);
        Check.answers(1 + 36 * 4 + 3 + 2, x::parse, "150 nodes");
        Check.answers(150, () -> x.count(5), "150 nodes are there");
        Check.answers(-1, () -> x.node(149, 2), "the last is the root");
        Check.answers(149, () -> x.node(148, 2), "its last child");
        Check.answers(2, () -> x.node(148, 3), "its last child's number");
        Check.answers(37, () -> x.attribute(148, 1), "the last token's number");
        manyTokens(x, 37, 0, 1);
        Check.refuses(OVERFULL, x::parse, "151 nodes");
        Check.answers(-1, x::fault, "that is no fault");
        Check.answers(0, () -> x.count(6), "no tokens any more");
        Check.answers(150, () -> x.count(5), "the tree before stays");
        Check.answers(3, () -> x.node(148, 0), "and its nodes");
        manyTokens(x, 37, 0, 0);
        x.token(4, 0);
        Check.refuses(ARGUMENT, x::parse, "a fault behind 149 nodes");
        Check.answers(37, x::fault, "it is told");
        manyTokens(x, 37, 0, 2);
        x.token(4, 0);
        Check.refuses(OVERFULL, x::parse, "the 151st node comes before the fault");
        Check.answers(-1, x::fault, "so that there is none");
        faultAtTheFullTree();
    }

    private static void faultAtTheFullTree() {
        GrammarWorks x = lists();
        manyTokens(x, 36, 1, 1);
        x.token(4, 0);
        Check.refuses(ARGUMENT, x::parse, "a fault behind 150 nodes");
        Check.answers(38, x::fault, "no 151st had to be made");
    }

    /** A rule that can be reduced again and again before the same token, if its conflict could be decided. */
    private static void emptyRuleBeforeAToken() {
        GrammarWorks x = new GrammarWorks();
        x.rule(8, 9, 8, 1, 0);
        x.rule(8, 2, 0, 0, 0);
        x.rule(9, 0, 0, 0, 0);
        x.level(1, 1, 0);
        x.level(2, 2, 0);
        x.build();
        Check.answers(2, () -> x.count(3), "no level can help a rule without terminals");
        x.token(2, 0);
        Check.refuses(STATE, x::parse, "and so it is not parsed");
    }

    private static void operations() {
        long[][] cases = {{5, 3}, {3, 5}, {4, 4}, {-7, 0}, {0, -7}, {0, 0}};
        for (long[] c : cases) {
            long a = c[0];
            long b = c[1];
            long[] due = {77, a, a + b, a - b, a * b, a < b ? 1 : 0, a > b ? a : b, b != 0 ? a : 0};
            for (int operation = 0; operation <= 7; operation++) {
                GrammarWorks x = new GrammarWorks();
                x.rule(8, 1, 2, 0, 0);
                x.equation(0, 0, operation, operation == 0 ? 77 : 10, 20);
                x.build();
                x.token(1, (int) a);
                x.token(2, (int) b);
                x.parse();
                Check.answers(due[operation], () -> x.attribute(2, 0), "operation " + operation + " of " + a + ", " + b);
            }
        }
    }

    private static void resultsWrap() {
        GrammarWorks x = new GrammarWorks();
        x.rule(8, 8, 1, 0, 0);
        x.rule(8, 2, 0, 0, 0);
        x.equation(0, 0, 4, 10, 10);
        x.equation(0, 1, 3, 11, 10);
        x.equation(1, 0, 1, 10, 0);
        x.equation(1, 1, 0, Integer.MIN_VALUE, 0);
        x.build();
        x.token(2, 123456789);
        x.token(1, 0);
        x.token(1, 0);
        x.token(1, 0);
        x.parse();
        long value = 123456789;
        long other = Integer.MIN_VALUE;
        for (int node = 1; node <= 7; node += 2) {
            int number = node;
            Check.answers(value, () -> x.attribute(number, 0), "product in node " + node);
            Check.answers(other, () -> x.attribute(number, 1), "difference in node " + node);
            other -= value;
            value *= value;
        }
    }

    private static void attributesOfTokens() {
        GrammarWorks x = new GrammarWorks();
        x.rule(8, 3, 3, 6, 0);
        x.equation(0, 0, 3, 31, 21);
        x.equation(0, 1, 6, 10, 30);
        x.build();
        x.token(3, Integer.MIN_VALUE);
        x.token(3, Integer.MAX_VALUE);
        x.token(6, -1);
        x.parse();
        long[] values = {Integer.MIN_VALUE, Integer.MAX_VALUE, -1};
        for (int k = 0; k < 3; k++) {
            int node = k;
            Check.answers(values[k], () -> x.attribute(node, 0), "value of token " + k);
            Check.answers(k, () -> x.attribute(node, 1), "number of token " + k);
            Check.answers(0, () -> x.attribute(node, 2), "attribute 2 of token " + k);
        }
        Check.answers(1, () -> x.attribute(3, 0), "two less one");
        Check.answers(-1, () -> x.attribute(3, 1), "the greater value");
        Check.answers(0, () -> x.attribute(3, 2), "attribute 2 of the root");
    }

    private static void attributesGoDown() {
        GrammarWorks x = new GrammarWorks();
        x.rule(8, 9, 9, 0, 0);
        x.rule(9, 1, 9, 0, 0);
        x.rule(9, 2, 0, 0, 0);
        x.equation(0, 12, 0, 100, 0);
        x.equation(0, 22, 2, 10, 11);
        x.equation(0, 0, 1, 20, 0);
        x.equation(0, 1, 1, 2, 0);
        x.equation(1, 22, 2, 2, 10);
        x.equation(1, 0, 1, 20, 0);
        x.equation(2, 0, 2, 2, 10);
        x.build();
        x.token(1, 7);
        x.token(2, 9);
        x.token(1, 1000);
        x.token(2, 4);
        Check.answers(9, x::parse, "parse");
        long[] downs = {0, 0, 107, 100, 0, 0, 1116, 116, 0};
        long[] ups = {7, 9, 116, 116, 1000, 4, 1120, 1120, 1120};
        for (int k = 0; k < 9; k++) {
            int node = k;
            Check.answers(downs[k], () -> x.attribute(node, 2), "attribute 2 of node " + k);
            Check.answers(ups[k], () -> x.attribute(node, 0), "attribute 0 of node " + k);
        }
        Check.answers(0, () -> x.attribute(3, 1), "attribute 1 without an equation");
        Check.answers(0, () -> x.attribute(8, 1), "attribute 1 from attribute 2 of the root");
    }

    private static void attributesAreThoseOfTheParse() {
        GrammarWorks x = new GrammarWorks();
        x.rule(8, 1, 0, 0, 0);
        x.equation(0, 0, 1, 10, 0);
        x.build();
        x.token(1, 6);
        x.parse();
        x.equation(0, 0, 0, 50, 0);
        Check.answers(6, () -> x.attribute(1, 0), "behind another equation");
        x.build();
        Check.answers(6, () -> x.attribute(1, 0), "behind build");
        x.token(1, 6);
        x.parse();
        Check.answers(50, () -> x.attribute(1, 0), "behind another parse");
        x.token(1, 8);
        x.parse();
        Check.answers(50, () -> x.attribute(1, 0), "and another");
        Check.answers(8, () -> x.attribute(0, 0), "with its own token");
    }

    /** What goes down to the end of a list of 39, then up to its beginning, and down and up once more. */
    private static void longChain() {
        GrammarWorks x = new GrammarWorks();
        x.rule(8, 9, 0, 0, 0);
        x.rule(9, 1, 9, 0, 0);
        x.rule(9, 2, 0, 0, 0);
        x.equation(1, 22, 2, 2, 10);
        x.equation(1, 0, 1, 20, 0);
        x.equation(1, 1, 2, 0, 21);
        x.equation(2, 0, 1, 2, 0);
        x.equation(2, 1, 1, 0, 0);
        x.equation(0, 0, 1, 11, 0);
        x.build();
        for (int k = 0; k < 39; k++) {
            x.token(1, k);
        }
        x.token(2, 0);
        Check.answers(81, x::parse, "parse");
        Check.answers(40 * (38 * 39 / 2), () -> x.attribute(80, 0), "all sums at each of 40 nodes");
    }

    /** What a parse with a fault leaves undone does not come into the way of later ones. */
    private static void manyParses() {
        GrammarWorks x = new GrammarWorks();
        x.rule(8, 1, 8, 2, 0);
        x.rule(8, 3, 0, 0, 0);
        x.build();
        for (int round = 1; round <= 20; round++) {
            for (int k = 0; k < 15; k++) {
                x.token(1, k);
            }
            Check.refuses(ARGUMENT, x::parse, "parse " + round);
            Check.answers(15, x::fault, "fault of parse " + round);
        }
        for (int k = 0; k < 31; k++) {
            x.token(k < 15 ? 1 : k == 15 ? 3 : 2, k);
        }
        Check.answers(31 + 16, x::parse, "parse behind many faults");
        Check.answers(0, () -> x.node(46, 1), "its root's rule");
        Check.answers(46, () -> x.node(0, 2), "its first node's parent");
    }
}
