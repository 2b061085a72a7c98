import java.util.NoSuchElementException;

/** The terms from A PARSE on: a test for each of their sentences, with the boundaries that it names. */
public final class TermsTreeTest {
    private static final Class<IllegalArgumentException> ARGUMENT = IllegalArgumentException.class;
    private static final Class<IllegalStateException> STATE = IllegalStateException.class;
    private static final Class<NoSuchElementException> ELEMENT = NoSuchElementException.class;

    private static final long MOST = Long.MAX_VALUE;
    private static final long LEAST = Long.MIN_VALUE;

    public static void main(String[] args) {
        tokensWithTheEndBehindThem();
        parseBeginsInStateZero();
        shiftMakesANode();
        reduceTakesAsManyAsTheRightSideHas();
        faultIsTheNumberOfTheToken();
        faultComesBehindWhatCanBeReduced();
        nodesAreNumberedAsTheyAreMade();
        attributesOfATokenAreItsOwn();
        attributesAreLongs();
        codesAreOfEachSymbol();
        equationsAreForWhatTheySay();
        operationsOfLongs();
        numbersAreInts();
        resultsWrap();
        withoutEquationItIsZero();
        nothingIsLeftOfTreesBefore();
        aNodeMayBeAlone();
        hangsInALongRow();
        hangsOnBothCodes();
        hangsNotOnNumbers();
        hangsOnAllThatTheseHangOn();
        treesOfAnyNonterminal();
        treesWithTokensAtAllLeaves();
        leavesOfEachTerminal();
        ruleWithoutRightSideHasNoChildren();
        attributeHangsOnItself();
        thrownInTheOrderOfTesting();
        callThatThrowsChangesNothing();
        Check.end();
    }

    private static GrammarWorks works(int[]... rules) {
        GrammarWorks x = new GrammarWorks();
        for (int[] r : rules) {
            int a = r.length > 1 ? r[1] : 0;
            int b = r.length > 2 ? r[2] : 0;
            int c = r.length > 3 ? r[3] : 0;
            int d = r.length > 4 ? r[4] : 0;
            x.rule(r[0], a, b, c, d);
        }
        return x;
    }

    private static int[] r(int... symbols) {
        return symbols;
    }

    private static void circular(int due, GrammarWorks x, String what) {
        x.build();
        Check.answers(due, () -> x.count(4), what);
    }

    /** Terms: "A PARSE goes over TOKENS, each a terminal and a value, the end behind them." All of them, up to 40. */
    private static void tokensWithTheEndBehindThem() {
        GrammarWorks x = works(r(8, 8, 6), r(8, 6), r(8, 6, 1));
        x.build();
        for (int k = 0; k < 39; k++) {
            x.token(6, -k);
        }
        x.token(1, 5);
        Check.refuses(ARGUMENT, x::parse, "the 40th token is read, too");
        Check.answers(39, x::fault, "its fault");
        for (int k = 0; k < 40; k++) {
            x.token(6, -k);
        }
        Check.answers(80, x::parse, "40 tokens");
        Check.answers(6, () -> x.node(78, 0), "the last token's terminal");
        Check.answers(-39, () -> x.attribute(78, 0), "the last token's value");
        Portrait.give(x, 6, 1, 1, 2);
        Check.answers(3, x::parse, "the end is behind the last, also if more were there before");
    }

    /** Terms: "It begins in state 0, alone on a stack." Each time, whatever was left on it before. */
    private static void parseBeginsInStateZero() {
        GrammarWorks x = works(r(8, 1, 8), r(8, 2));
        x.build();
        for (int round = 0; round < 5; round++) {
            for (int k = 0; k < 40; k++) {
                x.token(1, 0);
            }
            Check.refuses(ARGUMENT, x::parse, "40 on the stack, and a fault");
            Portrait.give(x, 1, 0, 2, 0);
            Check.answers(4, x::parse, "two tokens behind it");
            Check.answers(-1, () -> x.node(3, 2), "the last node is the root");
        }
    }

    /**
     * Terms: "At the first token not shifted: SHIFT makes a node for the token, and the state to which the topmost one
     * goes by it comes on the stack."
     */
    private static void shiftMakesANode() {
        GrammarWorks x = works(r(8, 6, 1, 6, 1));
        x.build();
        Portrait.give(x, 6, 5, 1, 6, 6, 7, 1, 8);
        Check.answers(5, x::parse, "four shifts and a rule");
        for (int k = 0; k < 4; k++) {
            int node = k;
            Check.answers(k % 2 == 0 ? 6 : 1, () -> x.node(node, 0), "symbol of token " + k);
            Check.answers(5 + k, () -> x.attribute(node, 0), "value of token " + k);
            Check.answers(-1, () -> x.node(node, 1), "a token has no rule, " + k);
        }
    }

    /**
     * Terms: "REDUCE makes a node with a rule, whose CHILDREN are the nodes of as many states as its right side has
     * symbols; these go from the stack, and the one to which the state below goes by the left side comes on it."
     */
    private static void reduceTakesAsManyAsTheRightSideHas() {
        GrammarWorks x = works(r(8, 9, 10, 11, 12), r(9), r(10, 1), r(11, 1, 9), r(12, 1, 2, 1, 8), r(8, 9, 3));
        Check.answers(14, x::build, "build");
        Portrait.give(x, 1, 0, 1, 0, 1, 0, 2, 0, 1, 0, 3, 0);
        Check.answers(14, x::parse, "parse");
        int[] parents = {13, 2, 13, 5, 5, 13, 12, 12, 12, 11, 11, 12, 13, -1};
        int[] numbers = {1, 1, 2, 1, 2, 3, 1, 2, 3, 1, 2, 4, 4, 0};
        for (int k = 0; k < 14; k++) {
            int node = k;
            Check.answers(parents[k], () -> x.node(node, 2), "parent of node " + k);
            Check.answers(numbers[k], () -> x.node(node, 3), "which child node " + k + " is");
        }
    }

    /**
     * Terms: "ACCEPT ends it. If nothing can be done THE FAULT is the number of that token (from 0 on; the end has the
     * number of tokens)."
     */
    private static void faultIsTheNumberOfTheToken() {
        GrammarWorks x = works(r(8, 1, 1));
        x.build();
        int[][] tokens = {{}, {2}, {1}, {1, 2}, {1, 1, 1}, {1, 1, 2, 2}};
        int[] faults = {0, 0, 1, 1, 2, 2};
        for (int k = 0; k < tokens.length; k++) {
            for (int t : tokens[k]) {
                x.token(t, 0);
            }
            int due = faults[k];
            Check.refuses(ARGUMENT, x::parse, "tokens " + k);
            Check.answers(due, x::fault, "fault of tokens " + k);
        }
        Portrait.give(x, 1, 0, 1, 0);
        Check.answers(3, x::parse, "accepted");
    }

    /** Terms: "If nothing can be done": at a t that is a lookahead by another way, rules are reduced before the fault. */
    private static void faultComesBehindWhatCanBeReduced() {
        GrammarWorks x = works(r(8, 2, 9, 4), r(8, 3, 9, 5), r(9, 1));
        x.build();
        Portrait.give(x, 2, 0, 1, 0, 5, 0);
        Check.refuses(ARGUMENT, x::parse, "5 behind 2 and 1");
        Check.answers(2, x::fault, "is the fault, also behind the rule of 9");
    }

    /** Terms: "Nodes are numbered from 0 as they are made." Those of rules behind their children, also the empty. */
    private static void nodesAreNumberedAsTheyAreMade() {
        GrammarWorks x = works(r(8, 9, 8, 10), r(8, 3), r(9, 1), r(10));
        Check.answers(7, x::build, "build");
        Portrait.give(x, 1, 0, 1, 0, 3, 0);
        Check.answers(10, x::parse, "parse");
        int[] symbols = {1, 9, 1, 9, 3, 8, 10, 8, 10, 8};
        for (int k = 0; k < 10; k++) {
            int node = k;
            Check.answers(symbols[k], () -> x.node(node, 0), "symbol of node " + k);
        }
    }

    /** Terms: "A token's are its value, its number, and 0." The numbers from 0 to 39. */
    private static void attributesOfATokenAreItsOwn() {
        GrammarWorks x = works(r(8, 8, 1), r(8, 1));
        x.build();
        for (int k = 0; k < 40; k++) {
            x.token(1, k % 2 == 0 ? Edges.LOWEST + k : Edges.HIGHEST - k);
        }
        x.parse();
        int number = 0;
        for (int n = 0; n < 80; n++) {
            int node = n;
            if (x.node(n, 1) == -1) {
                int k = number++;
                long value = k % 2 == 0 ? Edges.LOWEST + k : Edges.HIGHEST - k;
                Check.answers(value, () -> x.attribute(node, 0), "value of token " + k);
                Check.answers(k, () -> x.attribute(node, 1), "number of token " + k);
                Check.answers(0, () -> x.attribute(node, 2), "attribute 2 of token " + k);
            }
        }
        Check.answers(40, () -> x.attribute(78, 1) + 1, "40 tokens");
    }

    /** Terms: "ATTRIBUTES, longs, of each node: 0 and 1 go up, 2 goes down." What is beyond ints is kept on all ways. */
    private static void attributesAreLongs() {
        GrammarWorks x = works(r(8, 9), r(9, 9, 1), r(9, 1));
        x.equation(0, 12, 0, Edges.HIGHEST, 0);
        x.equation(1, 12, 4, 2, 20);
        x.equation(2, 0, 1, 2, 0);
        x.equation(2, 1, 3, 10, 2);
        x.equation(1, 0, 1, 10, 0);
        x.equation(1, 1, 1, 11, 0);
        x.equation(0, 0, 1, 10, 0);
        x.equation(0, 1, 1, 11, 0);
        x.build();
        Portrait.give(x, 1, -5, 1, Edges.HIGHEST);
        Check.answers(5, x::parse, "parse");
        long square = (long) Edges.HIGHEST * Edges.HIGHEST;
        Check.answers(square, () -> x.attribute(1, 2), "it goes down");
        Check.answers(square, () -> x.attribute(4, 0), "and up");
        Check.answers(-5 - square, () -> x.attribute(4, 1), "by both ways");
    }

    /**
     * Terms: "In a rule the code 10 * k + a is attribute a of its left side (k = 0) or of the k-th symbol of its right
     * side." All codes of a rule with four symbols.
     */
    private static void codesAreOfEachSymbol() {
        int[] codes = {0, 1, 2, 10, 11, 12, 20, 21, 30, 31, 32, 40, 41};
        long[] due = {7001, 7002, 0, 102, 103, 101, 55, 1, 402, 403, 401, 77, 3};
        for (int c = 0; c < codes.length; c++) {
            int code = codes[c];
            GrammarWorks x = works(r(8, 9, 1, 9, 2), r(9, 3));
            x.equation(0, 0, 0, 7001, 0);
            x.equation(0, 1, 0, 7002, 0);
            x.equation(0, 12, 0, 101, 0);
            x.equation(0, 32, 0, 401, 0);
            x.equation(1, 0, 2, 2, 10);
            x.equation(1, 1, 2, 0, 10);
            x.equation(0, code == 0 ? 1 : 0, 1, code, 0);
            x.build();
            Portrait.give(x, 3, 1, 1, 55, 3, 1, 2, 77);
            Check.answers(7, x::parse, "parse for code " + code);
            long answer = due[c];
            Check.answers(answer, () -> x.attribute(6, code == 0 ? 1 : 0), "code " + code);
        }
    }

    /**
     * Terms: "An EQUATION of a rule says what one is: for 0 and 1 of the left side and 2 of nonterminals on the right
     * side, by OPERATION and x, y:" - for each of a rule, and not for those of other nodes with the rule.
     */
    private static void equationsAreForWhatTheySay() {
        GrammarWorks x = works(r(8, 9, 9, 9, 9), r(9, 1));
        int[] codes = {0, 1, 12, 22, 32, 42};
        for (int code : codes) {
            x.equation(0, code, 0, 1000 + code, 0);
        }
        x.equation(1, 0, 1, 2, 0);
        x.equation(1, 1, 1, 10, 0);
        x.build();
        Portrait.give(x, 1, 5, 1, 6, 1, 7, 1, 8);
        Check.answers(9, x::parse, "parse");
        Check.answers(1000, () -> x.attribute(8, 0), "attribute 0 of the root");
        Check.answers(1001, () -> x.attribute(8, 1), "attribute 1 of the root");
        for (int k = 1; k <= 4; k++) {
            int node = 2 * k - 1;
            int place = k;
            Check.answers(1002 + 10 * place, () -> x.attribute(node, 0), "attribute 0 of child " + k);
            Check.answers(4 + place, () -> x.attribute(node, 1), "attribute 1 of child " + k);
            Check.answers(1002 + 10 * place, () -> x.attribute(node, 2), "attribute 2 of child " + k);
        }
        for (int no : new int[] {2, 10, 11, 20}) {
            Check.refuses(ARGUMENT, () -> x.equation(0, no, 0, 0, 0), "an equation for " + no);
        }
        Check.refuses(ARGUMENT, () -> x.equation(1, 12, 0, 0, 0), "an equation for 2 of a terminal");
    }

    /** Makes the long from two tokens: 2 to the power of 32 times the first, and the second. */
    private static GrammarWorks longs(int operation) {
        GrammarWorks x = works(r(8, 9, 9), r(9, 1, 10, 1), r(10, 11), r(11));
        x.equation(3, 0, 0, 65536, 0);
        x.equation(2, 0, 4, 10, 10);
        x.equation(1, 22, 4, 10, 20);
        x.equation(2, 1, 1, 2, 0);
        x.equation(1, 0, 2, 21, 30);
        x.equation(0, 0, operation, 10, 20);
        x.build();
        return x;
    }

    private static void giveLong(GrammarWorks x, long value) {
        int low = (int) value;
        int high = (int) ((value - low) >> 32);
        Portrait.give(x, 1, high, 1, low);
    }

    /**
     * Terms: "1 x; 2 x + y; 3 x - y; 4 x * y; 5 1 if x is less than y, else 0; 6 the greater one; 7 x, if y is not 0,
     * else 0 (from 1 on x, from 2 on y are codes)." Where they are alike, and where ints or differences would go wrong.
     */
    private static void operationsOfLongs() {
        long[] numbers = {0, 1, -1, 2, Edges.HIGHEST, Edges.LOWEST, 1L << 32, -1L << 32, MOST, MOST - 1, LEAST, LEAST + 1};
        for (int operation = 1; operation <= 7; operation++) {
            for (long a : numbers) {
                GrammarWorks x = longs(operation);
                for (long b : numbers) {
                    giveLong(x, a);
                    giveLong(x, b);
                    x.parse();
                    long due = due(operation, a, b);
                    int root = x.count(5) - 1;
                    Check.answers(due, () -> x.attribute(root, 0), "operation " + operation + " of " + a + ", " + b);
                }
            }
        }
    }

    private static long due(int operation, long x, long y) {
        switch (operation) {
            case 1:
                return x;
            case 2:
                return x + y;
            case 3:
                return x - y;
            case 4:
                return x * y;
            case 5:
                return x < y ? 1 : 0;
            case 6:
                return x > y ? x : y;
            default:
                return y != 0 ? x : 0;
        }
    }

    /** Terms: "0 the number x" - from the lowest to the highest int, below 0, too. */
    private static void numbersAreInts() {
        GrammarWorks x = works(r(8));
        for (int number : new int[] {Edges.LOWEST, -1, 0, 1, 2, 10, Edges.HIGHEST}) {
            x.equation(0, 0, 0, number, Edges.HIGHEST);
            x.equation(0, 1, 3, 0, 0);
            x.build();
            x.parse();
            Check.answers(number, () -> x.attribute(0, 0), "number " + number);
            Check.answers(0, () -> x.attribute(0, 1), "number " + number + " less itself");
        }
    }

    /** Terms: "Results wrap." From the most to the least, and back; and a product of what is far too much. */
    private static void resultsWrap() {
        long[][] cases = {{2, MOST, 1, LEAST}, {2, LEAST, -1, MOST}, {3, LEAST, 1, MOST}, {3, MOST, -1, LEAST},
            {3, 0, LEAST, LEAST}, {4, LEAST, -1, LEAST}, {4, 1L << 32, 1L << 32, 0}, {4, MOST, 2, -2}, {4, MOST, MOST, 1},
            {2, LEAST, LEAST, 0}, {2, MOST, MOST, -2}};
        for (long[] c : cases) {
            GrammarWorks x = longs((int) c[0]);
            giveLong(x, c[1]);
            giveLong(x, c[2]);
            x.parse();
            Check.answers(c[3], () -> x.attribute(x.count(5) - 1, 0), "operation " + c[0] + " of " + c[1] + ", " + c[2]);
        }
    }

    /** Terms: "What has no equation, and attribute 2 of the root, is 0." Also behind a tree in which it was not. */
    private static void withoutEquationItIsZero() {
        GrammarWorks x = works(r(8, 9, 8), r(8, 9), r(9, 1));
        x.equation(0, 12, 0, 5, 0);
        x.equation(0, 22, 0, 6, 0);
        x.equation(0, 0, 0, 7, 0);
        x.equation(0, 1, 0, 8, 0);
        x.equation(2, 0, 2, 2, 10);
        x.build();
        for (int round = 0; round < 3; round++) {
            Portrait.give(x, 1, 50, 1, 60);
            Check.answers(6, x::parse, "a tree in which all have equations");
            Check.answers(6, () -> x.attribute(4, 2), "which the inner 8 has from above");
            Check.answers(0, () -> x.attribute(5, 2), "the root has nothing above");
            Check.answers(0, () -> x.attribute(4, 0), "and its own rule says nothing");
            Check.answers(0, () -> x.attribute(3, 2), "nor of its 9");
            Check.answers(0, () -> x.attribute(3, 1), "nor has 9 an attribute 1");
            Check.answers(60, () -> x.attribute(3, 0), "so that nothing is added");
            Portrait.give(x, 1, 70);
            Check.answers(3, x::parse, "a tree in which few have");
            for (int a = 0; a <= 2; a++) {
                int attribute = a;
                Check.answers(0, () -> x.attribute(2, attribute), "attribute " + a + " of its root");
            }
            Check.answers(70, () -> x.attribute(1, 0), "attribute 0 of its 9");
        }
    }

    /**
     * Terms: "A token's are its value, its number, and 0." and Terms: "What has no equation, and attribute 2 of the root,
     * is 0." Each tree comes behind each other, and behind two of them.
     */
    private static void nothingIsLeftOfTreesBefore() {
        int[][] texts = {{1, 1}, {2}, {3, 2, 3, 2}, {2, 1, 1}, {}};
        String[] due = new String[texts.length];
        for (int k = 0; k < texts.length; k++) {
            due[k] = treeOf(mixed(), texts[k]);
        }
        for (int a = 0; a < texts.length; a++) {
            for (int b = 0; b < texts.length; b++) {
                GrammarWorks x = mixed();
                for (int next : new int[] {a, a, b, b, a}) {
                    Check.compare(due[next], treeOf(x, texts[next]), "tree " + next + " behind " + a + " and " + b);
                }
            }
        }
    }

    /** All nodes but tokens have all attributes, or none, by the rule above them and their own. */
    private static GrammarWorks mixed() {
        GrammarWorks x = works(r(8, 9, 8), r(8), r(9, 1), r(9, 2), r(9, 3, 9));
        x.equation(0, 12, 0, 5, 0);
        x.equation(0, 22, 0, 6, 0);
        x.equation(0, 0, 0, 7, 0);
        x.equation(0, 1, 0, 8, 0);
        x.equation(2, 0, 0, 9, 0);
        x.equation(2, 1, 0, 11, 0);
        x.equation(4, 22, 0, 12, 0);
        x.build();
        return x;
    }

    private static String treeOf(GrammarWorks x, int[] terminals) {
        for (int t : terminals) {
            x.token(t, 50 + t);
        }
        x.parse();
        return Portrait.treeOf(x);
    }

    /** Terms: "ATTRIBUTES, longs, of each node": also of the first, if it is the root and has no children. */
    private static void aNodeMayBeAlone() {
        for (int a = 0; a <= 1; a++) {
            int attribute = a;
            GrammarWorks x = works(r(8));
            x.equation(0, a, 0, 5, 0);
            x.build();
            Check.answers(1, x::parse, "a node alone");
            Check.answers(5, () -> x.attribute(0, attribute), "attribute " + a);
            Check.answers(0, () -> x.attribute(0, 1 - attribute), "attribute " + (1 - a));
            Check.answers(0, () -> x.attribute(0, 2), "attribute 2");
        }
    }

    /** Terms: "and on all that these hang on": all attributes of 126 nodes in one row, from the first to the root. */
    private static void hangsInALongRow() {
        GrammarWorks x = works(r(8, 9), r(9, 10), r(10, 11), r(11, 12), r(12, 13), r(13, 8, 1), r(13));
        for (int rule = 0; rule <= 6; rule++) {
            x.equation(rule, 1, 1, 0, 0);
            x.equation(rule, 0, 1, 2, 0);
            if (rule < 5) {
                x.equation(rule, 12, 1, 1, 0);
            }
        }
        x.equation(5, 12, 2, 1, 20);
        circular(0, x, "a row of 378 is no ring");
        for (int k = 1; k <= 20; k++) {
            x.token(1, k);
        }
        Check.answers(146, x::parse, "parse");
        Check.answers(20 * 21 / 2, () -> x.attribute(0, 1), "the sum of all at the first node");
        Check.answers(0, () -> x.attribute(145, 1), "nothing at the root");
    }

    /**
     * Terms: "An attribute HANGS on those by which its equation says what it is (both x and y, if they are codes)" -
     * for each operation, even if its result does not need one.
     */
    private static void hangsOnBothCodes() {
        for (int operation = 1; operation <= 7; operation++) {
            GrammarWorks x = works(r(8, 1));
            x.equation(0, 0, operation, 0, 10);
            circular(1, x, "x, operation " + operation);
            x.equation(0, 0, operation, 10, 0);
            circular(operation == 1 ? 0 : 1, x, "y, operation " + operation);
            x.equation(0, 0, operation, 10, 11);
            circular(0, x, "neither, operation " + operation);
        }
    }

    /** Terms: "if they are codes": neither x of operation 0 nor y of 0 and 1 is one, whatever they are. */
    private static void hangsNotOnNumbers() {
        GrammarWorks x = works(r(8, 8, 8, 8, 8), r(8));
        for (int code : new int[] {0, 1, 12, 22, 32, 42}) {
            x.equation(0, code, 0, code, code);
        }
        circular(0, x, "numbers that would be codes");
        for (int code : new int[] {0, 1, 12, 22, 32, 42}) {
            x.equation(0, code, 1, 2, code);
        }
        circular(0, x, "y of operation 1");
        x.equation(0, 42, 2, 2, 42);
        circular(1, x, "y of operation 2");
    }

    /** Terms: "and on all that these hang on." Over all attributes of a rule, and over many levels of a tree. */
    private static void hangsOnAllThatTheseHangOn() {
        GrammarWorks x = works(r(8, 9, 9, 9, 9), r(9));
        x.equation(0, 0, 1, 1, 0);
        x.equation(0, 1, 1, 12, 0);
        x.equation(0, 12, 1, 22, 0);
        x.equation(0, 22, 1, 32, 0);
        x.equation(0, 32, 1, 42, 0);
        circular(0, x, "a long way with an end");
        x.equation(0, 42, 1, 0, 0);
        circular(1, x, "a ring of six");
        GrammarWorks deep = works(r(8, 9), r(9, 10), r(10, 11), r(11, 12), r(12, 13), r(13));
        for (int rule = 1; rule <= 4; rule++) {
            deep.equation(rule, 12, 1, 2, 0);
            deep.equation(rule, 1 - rule % 2, 1, 10 + rule % 2, 0);
        }
        deep.equation(0, 12, 1, 10, 0);
        circular(0, deep, "a way over six levels, open at the deepest");
        deep.equation(5, 1, 1, 0, 0);
        circular(0, deep, "still open");
        deep.equation(5, 0, 1, 2, 0);
        circular(1, deep, "closed");
    }

    /** Terms: "A grammar is CIRCULAR if there is a tree, of any nonterminal at its root": one that no rule names, too. */
    private static void treesOfAnyNonterminal() {
        for (int k = 8; k <= 13; k++) {
            GrammarWorks x = works(r(10, 1), r(k, 2));
            x.equation(1, 1, 1, 1, 0);
            circular(1, x, "a ring at " + k);
            x.equation(1, 1, 1, 0, 0);
            circular(0, x, "no ring at " + k);
        }
    }

    /**
     * Terms: "made by rules and with tokens at all other leaves": a ring in what no tree of tokens can have is none. It
     * is enough that there is one such tree, high or not.
     */
    private static void treesWithTokensAtAllLeaves() {
        GrammarWorks x = works(r(8, 1), r(8, 9), r(9, 10), r(10, 11), r(11, 12), r(12, 13), r(13, 9, 2));
        for (int rule = 1; rule <= 6; rule++) {
            x.equation(rule, 0, 1, 0, 0);
        }
        circular(0, x, "nothing ends 9 to 13");
        x.rule(11, 13, 13, 13, 9);
        circular(0, x, "another rule that does not");
        x.rule(12, 2, 2, 2, 2);
        circular(1, x, "one that does");
        GrammarWorks child = works(r(8, 1), r(9, 10), r(10, 10, 1));
        child.equation(1, 12, 1, 12, 0);
        circular(0, child, "a child that has no tree");
        child.rule(10, 3, 0, 0, 0);
        circular(1, child, "a child that has one");
    }

    /** Terms: "with tokens at all other leaves": each of the six terminals can be one. */
    private static void leavesOfEachTerminal() {
        for (int k = 1; k <= 6; k++) {
            GrammarWorks x = works(r(8), r(9, k, k), r(10, 9));
            x.equation(1, 0, 1, 0, 0);
            circular(1, x, "a ring above " + k);
            x.equation(1, 0, 1, 2, 0);
            x.equation(2, 12, 1, 10, 0);
            circular(1, x, "a ring in two nodes above " + k);
            x.equation(2, 12, 1, 11, 0);
            circular(0, x, "no ring above " + k);
        }
    }

    /** Terms: "(a rule without right side has no children)": it can be a leaf, at the root or below. */
    private static void ruleWithoutRightSideHasNoChildren() {
        GrammarWorks x = works(r(8));
        x.equation(0, 0, 1, 0, 0);
        circular(1, x, "a ring in a root alone");
        GrammarWorks y = works(r(8, 9, 9), r(9));
        y.equation(0, 12, 1, 20, 0);
        y.equation(0, 22, 1, 10, 0);
        circular(0, y, "9 does not hang on what comes down");
        y.equation(1, 0, 1, 2, 0);
        circular(1, y, "9 does, without children");
    }

    /** Terms: "in which an attribute hangs on itself." Each of the three can; a tree that only goes down to it can't. */
    private static void attributeHangsOnItself() {
        GrammarWorks x = works(r(8, 9), r(9, 1));
        x.equation(0, 12, 1, 12, 0);
        circular(1, x, "attribute 2");
        x.equation(0, 12, 1, 2, 0);
        circular(0, x, "attribute 2 on that above it");
        x.equation(1, 1, 1, 1, 0);
        circular(1, x, "attribute 1");
        x.equation(1, 1, 1, 2, 0);
        circular(0, x, "attribute 1 on 2");
        x.equation(0, 12, 1, 10, 0);
        circular(0, x, "2 on 0, where 1 hangs on 2");
        x.equation(0, 12, 1, 11, 0);
        circular(1, x, "2 on 1, where 1 hangs on 2");
    }

    /** Terms: "What is thrown is told in the order of testing": where two could be thrown it is the first told. */
    private static void thrownInTheOrderOfTesting() {
        GrammarWorks none = new GrammarWorks();
        Check.refuses(ELEMENT, () -> none.equation(0, -1, -1, -1, -1), "equation: the rule before the rest");
        Check.refuses(STATE, () -> none.action(-1, -1), "action: built before the state");
        Check.refuses(STATE, () -> none.go(-1, -1), "go: built before the state");
        Check.refuses(STATE, () -> none.lookaheads(-1, -1), "lookaheads: built before the state");
        Check.refuses(ELEMENT, () -> none.node(0, -1), "node: the node before the number");
        Check.refuses(ELEMENT, () -> none.attribute(0, -1), "attribute: the node before the number");
        for (int k = 0; k < 14; k++) {
            none.rule(8, 1, 1, 1, 1);
        }
        for (int k = 0; k < 40; k++) {
            none.token(2, 0);
        }
        Check.refuses(ARGUMENT, () -> none.rule(8, 1, 1, 1, -1), "rule: the symbols before the room");
        Check.refuses(ARGUMENT, () -> none.token(-1, 1), "token: the terminal before the room");
        none.build();
        Check.refuses(ARGUMENT, () -> none.lookaheads(50, -1), "lookaheads: the state before the rule");
        Check.refuses(STATE, none::parse, "parse: conflicts before the fault");
    }

    /** Terms: "a call that throws changes nothing but what is told." Many refused calls in a row, what is built stays. */
    private static void callThatThrowsChangesNothing() {
        GrammarWorks x = Portrait.busy();
        for (int k = 0; k < 3; k++) {
            Check.refuses(ARGUMENT, () -> x.rule(8, 8, 0, 8, 0), "rule");
            Check.refuses(ARGUMENT, () -> x.level(2, 10, 0), "level");
            Check.refuses(ARGUMENT, () -> x.level(2, 1, 3), "level");
            Check.refuses(ELEMENT, () -> x.equation(2, 0, 0, 0, 0), "equation");
            Check.refuses(ARGUMENT, () -> x.equation(0, 0, 7, 10, 22), "equation");
            Check.refuses(ARGUMENT, () -> x.first(7), "first");
            Check.refuses(ARGUMENT, () -> x.action(5, 0), "action");
            Check.refuses(ARGUMENT, () -> x.go(0, 14), "go");
            Check.refuses(ELEMENT, () -> x.lookaheads(0, 0), "lookaheads");
            Check.refuses(ARGUMENT, () -> x.token(7, 1), "token");
            Check.refuses(ELEMENT, () -> x.node(2, 0), "node");
            Check.refuses(ARGUMENT, () -> x.node(1, 4), "node");
            Check.refuses(ELEMENT, () -> x.attribute(-1, 0), "attribute");
            Check.refuses(ARGUMENT, () -> x.attribute(0, 3), "attribute");
            Check.refuses(ARGUMENT, () -> x.count(7), "count");
        }
        Check.compare(Portrait.of(Portrait.busy()), Portrait.of(x), "what is left");
    }
}
