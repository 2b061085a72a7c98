import java.util.NoSuchElementException;

/** Promises 1 to 4, 6, 15 and 16: a test of its own for each sentence, with the boundaries that it names. */
public final class GivingBoundaryTest {
    private static final Class<IllegalArgumentException> ARGUMENT = IllegalArgumentException.class;
    private static final Class<IllegalStateException> STATE = IllegalStateException.class;
    private static final Class<NoSuchElementException> ELEMENT = NoSuchElementException.class;

    public static void main(String[] args) {
        newObjectIsEmpty();
        newObjectSharesNothing();
        rulesAreNumbered();
        rightSidesOfNoneToFour();
        ruleUnbuilds();
        ruleWithoutNonterminal();
        ruleWithoutSymbol();
        ruleWithSomethingBehindNothing();
        ruleBeyondFourteen();
        levelBefore();
        levelUnbuilds();
        levelOutOfRange();
        equationIsNewOrNot();
        equationTakesThePlaceOfOne();
        equationUnbuilds();
        equationOfNoRule();
        equationForNoCode();
        equationWithoutOperation();
        equationWithNumbersThatAreNoCodes();
        equationWithSymbolNotInTheRule();
        equationWithAttributeTwoOfATerminal();
        equationWithoutAttribute();
        firstOfEachTerminal();
        firstOfWhatIsEmpty();
        firstBuiltOrNot();
        firstOfNoSymbol();
        clearTakesAll();
        clearMakesRoom();
        clearUnbuilds();
        clearKeepsTreeAndFault();
        clearTellsTheRules();
        countsOfRulesAndEquations();
        countsOfWhatIsBuilt();
        countsOfConflicts();
        countsOfTreeAndTokens();
        countOfAnotherNumber();
        Check.end();
    }

    /** Promise 1: "makes an object in the state that the terms give." */
    private static void newObjectIsEmpty() {
        GrammarWorks x = new GrammarWorks();
        Check.answers(-1, x::fault, "new: fault");
        for (int k = 0; k <= 6; k++) {
            int what = k;
            Check.answers(0, () -> x.count(what), "new: count " + k);
        }
        for (int k = 1; k <= 6; k++) {
            int terminal = k;
            Check.answers(1L << k, () -> x.first(terminal), "new: first " + k);
            Check.answers(0, () -> x.level(terminal, 9, 2), "new: level " + k);
            Check.answers(0, () -> x.first(7 + terminal), "new: first " + (7 + k));
        }
        Check.refuses(STATE, x::build, "new: build");
        Check.refuses(STATE, () -> x.action(0, 0), "new: action");
        Check.refuses(STATE, () -> x.go(0, 8), "new: go");
        Check.refuses(STATE, () -> x.lookaheads(0, 0), "new: lookaheads");
        Check.refuses(STATE, x::parse, "new: parse");
        Check.refuses(ELEMENT, () -> x.equation(0, 0, 0, 0, 0), "new: equation");
        Check.refuses(ELEMENT, () -> x.node(0, 0), "new: node");
        Check.refuses(ELEMENT, () -> x.attribute(0, 0), "new: attribute");
    }

    /** Promise 1: "makes an object in the state that the terms give." Also beside objects that have much. */
    private static void newObjectSharesNothing() {
        String due = Portrait.of(new GrammarWorks());
        GrammarWorks busy = Portrait.busy();
        Check.compare(due, Portrait.of(new GrammarWorks()), "a new object beside another");
        String portrait = Portrait.of(busy);
        Check.compare(Portrait.of(Portrait.busy()), portrait, "and the other beside it");
        Check.holds(portrait.contains(" parse=10 "), "which can parse its tokens");
    }

    /** Promise 2: "Adds a rule with the right side a, b, c, d" and Promise 2: "answers its number." From 0 to 13. */
    private static void rulesAreNumbered() {
        GrammarWorks x = new GrammarWorks();
        for (int k = 0; k < 14; k++) {
            int number = k;
            Check.answers(k, () -> x.rule(8 + number % 6, 1 + number % 6, 13, 6, 8), "rule " + k);
            Check.answers(k + 1, () -> x.count(0), "rules behind rule " + k);
        }
    }

    /** Promise 2: "(0: nothing, and nothing behind it)": right sides of no, one, two, three and four symbols. */
    private static void rightSidesOfNoneToFour() {
        for (int k = 0; k <= 4; k++) {
            int length = k;
            GrammarWorks x = new GrammarWorks();
            x.rule(8, k > 0 ? 1 : 0, k > 1 ? 2 : 0, k > 2 ? 3 : 0, k > 3 ? 6 : 0);
            Check.answers(length + 2, x::build, "states of a right side of " + k);
            int[] right = {1, 2, 3, 6};
            for (int t = 0; t < k; t++) {
                x.token(right[t], t);
            }
            Check.answers(length + 1, x::parse, "nodes of a right side of " + k);
            Check.answers(0, () -> x.node(length, 1), "the root's rule");
            Check.answers(length == 0 ? 1 : 2, () -> x.first(8), "FIRST of a right side of " + k);
        }
    }

    /** Promise 2: "Nothing is built then." Even if the rule is there already, and nothing leads to it. */
    private static void ruleUnbuilds() {
        GrammarWorks x = Portrait.busy();
        x.rule(13, 1, 0, 0, 0);
        Portrait.isNotBuilt(x, "behind rule");
        x.build();
        x.rule(13, 1, 0, 0, 0);
        Portrait.isNotBuilt(x, "behind the same rule once more");
    }

    /** Promise 2: "IllegalArgumentException: left is no nonterminal" - 8 and 13 are the last that are. */
    private static void ruleWithoutNonterminal() {
        for (int k : Edges.NO_NONTERMINALS) {
            int left = k;
            Portrait.refusesAndKeeps(ARGUMENT, Portrait::busy, x -> x.rule(left, 1, 0, 0, 0), "left side " + k);
        }
        GrammarWorks x = new GrammarWorks();
        Check.answers(0, () -> x.rule(8, 1, 0, 0, 0), "left side 8");
        Check.answers(1, () -> x.rule(13, 1, 0, 0, 0), "left side 13");
    }

    /** Promise 2: "a symbol (not 0) is none" - in each of the four places; 1, 6, 8 and 13 are the last that are. */
    private static void ruleWithoutSymbol() {
        for (int k : Edges.NO_SYMBOLS) {
            int no = k;
            Portrait.refusesAndKeeps(ARGUMENT, Portrait::busy, x -> x.rule(8, no, 0, 0, 0), "a " + k);
            Portrait.refusesAndKeeps(ARGUMENT, Portrait::busy, x -> x.rule(8, 1, no, 0, 0), "b " + k);
            Portrait.refusesAndKeeps(ARGUMENT, Portrait::busy, x -> x.rule(8, 1, 2, no, 0), "c " + k);
            Portrait.refusesAndKeeps(ARGUMENT, Portrait::busy, x -> x.rule(8, 1, 2, 3, no), "d " + k);
        }
        GrammarWorks x = new GrammarWorks();
        int number = 0;
        for (int k : new int[] {1, 6, 8, 13}) {
            int symbol = k;
            Check.answers(number++, () -> x.rule(8, symbol, 0, 0, 0), "a " + k);
            Check.answers(number++, () -> x.rule(8, 1, symbol, 0, 0), "b " + k);
            Check.answers(number++, () -> x.rule(8, 1, 2, 3, symbol), "d " + k);
        }
        Check.answers(12, () -> x.rule(8, 1, 2, 6, 0), "c 6");
        Check.answers(13, () -> x.rule(8, 1, 2, 13, 0), "c 13");
    }

    /** Promise 2: "one stands behind a 0." Right behind it, and further off. */
    private static void ruleWithSomethingBehindNothing() {
        int[][] sides = {{0, 1, 0, 0}, {0, 0, 1, 0}, {0, 0, 0, 1}, {1, 0, 1, 0}, {1, 0, 0, 1}, {1, 2, 0, 1}, {0, 1, 2, 3},
            {0, 0, 0, 13}, {1, 0, 2, 3}, {0, 1, 0, 1}, {0, 0, 8, 8}};
        for (int[] s : sides) {
            String what = "right side " + s[0] + " " + s[1] + " " + s[2] + " " + s[3];
            Portrait.refusesAndKeeps(ARGUMENT, Portrait::busy, x -> x.rule(8, s[0], s[1], s[2], s[3]), what);
        }
    }

    /** Promise 2: "IllegalStateException: 14 are there." What else is wrong is told before; what is built stays. */
    private static void ruleBeyondFourteen() {
        Portrait.refusesAndKeeps(STATE, GivingBoundaryTest::fourteen, x -> x.rule(13, 0, 0, 0, 0), "a 15th rule");
        GrammarWorks x = fourteen();
        Check.refuses(ARGUMENT, () -> x.rule(14, 1, 0, 0, 0), "a 15th with a wrong left side");
        Check.refuses(ARGUMENT, () -> x.rule(8, 7, 0, 0, 0), "a 15th with a wrong symbol");
        Check.refuses(ARGUMENT, () -> x.rule(8, 0, 1, 0, 0), "a 15th with something behind a 0");
        Check.refuses(STATE, () -> x.rule(8, 1, 0, 0, 0), "a 15th that is there already");
        Check.answers(14, () -> x.count(0), "14 are there");
        Check.answers(3, () -> x.count(2), "and they are built");
    }

    /** Fourteen rules, of which only the first counts, built. */
    private static GrammarWorks fourteen() {
        GrammarWorks x = new GrammarWorks();
        x.rule(8, 1, 0, 0, 0);
        for (int k = 1; k < 14; k++) {
            x.rule(9, 1, 0, 0, 0);
        }
        x.build();
        x.token(1, 1);
        return x;
    }

    /** Promise 3: "Gives a terminal a level and a kind; answers its level before." From 0 to 9, for each by itself. */
    private static void levelBefore() {
        GrammarWorks x = new GrammarWorks();
        for (int k = 1; k <= 6; k++) {
            int terminal = k;
            Check.answers(0, () -> x.level(terminal, 9, 2), "first level of " + k);
        }
        for (int k = 1; k <= 6; k++) {
            int terminal = k;
            Check.answers(9, () -> x.level(terminal, terminal, 1), "second level of " + k);
            Check.answers(terminal, () -> x.level(terminal, 0, 0), "third level of " + k);
            Check.answers(0, () -> x.level(terminal, 0, 0), "fourth level of " + k);
        }
    }

    /** Promise 3: "Nothing is built then." Even if level and kind are as before, and no rule has the terminal. */
    private static void levelUnbuilds() {
        GrammarWorks x = Portrait.busy();
        Check.answers(5, () -> x.level(2, 5, 1), "the same level");
        Portrait.isNotBuilt(x, "behind the same level");
        x.build();
        x.level(6, 0, 0);
        Portrait.isNotBuilt(x, "behind the level of a terminal that is in no rule");
    }

    /** Promise 3: "IllegalArgumentException: one is out of range." The terminal, the level or the kind. */
    private static void levelOutOfRange() {
        for (int k : Edges.NO_TERMINALS) {
            int no = k;
            Portrait.refusesAndKeeps(ARGUMENT, Portrait::busy, x -> x.level(no, 1, 1), "level of terminal " + k);
        }
        for (int k : Edges.outside(0, 9)) {
            int no = k;
            Portrait.refusesAndKeeps(ARGUMENT, Portrait::busy, x -> x.level(2, no, 0), "level " + k);
        }
        for (int k : Edges.outside(0, 2)) {
            int no = k;
            Portrait.refusesAndKeeps(ARGUMENT, Portrait::busy, x -> x.level(2, 5, no), "kind " + k);
        }
    }

    private static GrammarWorks wide() {
        GrammarWorks x = new GrammarWorks();
        x.rule(8, 8, 9, 10, 13);
        return x;
    }

    /** Promise 4: "Gives a rule an equation for a code, in place of one there: 1 if there was none, else 0." */
    private static void equationIsNewOrNot() {
        GrammarWorks x = wide();
        x.rule(8, 8, 9, 10, 13);
        int equations = 0;
        for (int code : new int[] {0, 1, 12, 22, 32, 42}) {
            for (int k = 0; k <= 1; k++) {
                int rule = k;
                Check.answers(1, () -> x.equation(rule, code, 0, 0, 0), "rule " + k + " gets code " + code);
                Check.answers(0, () -> x.equation(rule, code, 0, 0, 0), "rule " + k + " has code " + code);
                int due = ++equations;
                Check.answers(due, () -> x.count(1), "equations behind code " + code + " of rule " + k);
            }
        }
    }

    /** Promise 4: "in place of one there": nothing is left of that one, neither its ring nor its numbers. */
    private static void equationTakesThePlaceOfOne() {
        GrammarWorks x = new GrammarWorks();
        x.rule(8, 1, 0, 0, 0);
        x.equation(0, 0, 2, 0, 0);
        x.build();
        Check.answers(1, () -> x.count(4), "an equation that makes a ring");
        Check.answers(0, () -> x.equation(0, 0, 1, 10, 0), "another, whose y is no code");
        x.build();
        Check.answers(0, () -> x.count(4), "makes none");
        x.token(1, 7);
        x.parse();
        Check.answers(7, () -> x.attribute(1, 0), "the new one counts");
        Check.answers(0, () -> x.equation(0, 0, 0, 1, 0), "a number, which would be a code of a ring");
        x.build();
        x.token(1, 7);
        x.parse();
        Check.answers(1, () -> x.attribute(1, 0), "the newest counts");
    }

    /** Promise 4: "Nothing is built then." Even if the equation is as before. */
    private static void equationUnbuilds() {
        GrammarWorks x = Portrait.busy();
        Check.answers(0, () -> x.equation(1, 0, 1, 10, 0), "the same equation");
        Portrait.isNotBuilt(x, "behind the same equation");
        x.build();
        Check.answers(1, () -> x.equation(0, 1, 0, 0, 0), "a new one");
        Portrait.isNotBuilt(x, "behind a new equation");
    }

    /** Promise 4: "NoSuchElementException: no such rule." Before all else that is wrong. */
    private static void equationOfNoRule() {
        for (int k : new int[] {Edges.LOWEST, -1, 2, 3, 13, 14, 256, Edges.HIGHEST}) {
            int no = k;
            Portrait.refusesAndKeeps(ELEMENT, Portrait::busy, x -> x.equation(no, 0, 0, 0, 0), "rule " + k);
            Portrait.refusesAndKeeps(ELEMENT, Portrait::busy, x -> x.equation(no, 2, 8, 99, 99), "wrong, rule " + k);
        }
        GrammarWorks x = fourteen();
        Check.answers(1, () -> x.equation(13, 0, 0, 0, 0), "an equation of the last rule");
        Check.refuses(ELEMENT, () -> x.equation(14, 0, 0, 0, 0), "of the one behind it");
    }

    /** Promise 4: "IllegalArgumentException: no equation can be for this code" - what comes from below or above. */
    private static void equationForNoCode() {
        int[] noCodes = {Edges.LOWEST, -12, -10, -1, 2, 3, 9, 10, 11, 13, 20, 21, 22, 30, 31, 33, 40, 41, 42, 50, 52, 100,
            256, 2572, 65536, 65548, Edges.HIGHEST - 5, Edges.HIGHEST};
        for (int code : noCodes) {
            Portrait.refusesAndKeeps(ARGUMENT, Portrait::busy, x -> x.equation(0, code, 0, 0, 0), "code " + code);
        }
        GrammarWorks x = new GrammarWorks();
        x.rule(8, 0, 0, 0, 0);
        Check.refuses(ARGUMENT, () -> x.equation(0, 12, 0, 0, 0), "a child of a rule without right side");
        Check.answers(1, () -> x.equation(0, 0, 0, 0, 0), "its own attribute 0");
        Check.answers(1, () -> x.equation(0, 1, 0, 0, 0), "its own attribute 1");
    }

    /** Promise 4: "no such operation" - 0 and 7 are the last that are. */
    private static void equationWithoutOperation() {
        for (int k : Edges.outside(0, 7)) {
            int no = k;
            Portrait.refusesAndKeeps(ARGUMENT, Portrait::busy, x -> x.equation(0, 0, no, 10, 30), "operation " + k);
        }
        GrammarWorks x = wide();
        for (int k = 0; k <= 7; k++) {
            int operation = k;
            Check.answers(k == 0 ? 1 : 0, () -> x.equation(0, 0, operation, 10, 20), "operation " + k);
        }
    }

    /** Promise 4: "x, or y, is to be a code (y not for 0 and 1: it may be anything)": so may x for 0, a number. */
    private static void equationWithNumbersThatAreNoCodes() {
        GrammarWorks x = wide();
        x.equation(0, 0, 0, 0, 0);
        for (int k : new int[] {Edges.LOWEST, -1, 3, 13, 50, 99, Edges.HIGHEST}) {
            int no = k;
            Check.answers(0, () -> x.equation(0, 0, 0, no, 0), "number " + k);
            Check.answers(0, () -> x.equation(0, 0, 0, 0, no), "y " + k + " behind a number");
            Check.answers(0, () -> x.equation(0, 0, 1, 10, no), "y " + k + " of operation 1");
            for (int operation = 1; operation <= 7; operation++) {
                int number = operation;
                Check.refuses(ARGUMENT, () -> x.equation(0, 0, number, no, 10), "x " + k + " of operation " + number);
            }
            for (int operation = 2; operation <= 7; operation++) {
                int number = operation;
                Check.refuses(ARGUMENT, () -> x.equation(0, 0, number, 10, no), "y " + k + " of operation " + number);
            }
        }
    }

    /** Promise 4: "and no such symbol is in the rule" - the last of it is; 0 is the left side. */
    private static void equationWithSymbolNotInTheRule() {
        int[][] sides = {{0, 0, 0, 0}, {9, 0, 0, 0}, {9, 9, 0, 0}, {9, 9, 9, 0}, {9, 9, 9, 9}};
        for (int k = 0; k <= 4; k++) {
            int last = 10 * k;
            GrammarWorks x = new GrammarWorks();
            x.rule(8, sides[k][0], sides[k][1], sides[k][2], sides[k][3]);
            x.equation(0, 0, 0, 0, 0);
            for (int a = 0; a <= 2; a++) {
                int attribute = a;
                Check.answers(0, () -> x.equation(0, 0, 1, last + attribute, 0), "x: " + (last + a));
                Check.answers(0, () -> x.equation(0, 0, 7, attribute, last + attribute), "y: " + (last + a));
                Check.refuses(ARGUMENT, () -> x.equation(0, 0, 1, last + 10 + attribute, 0), "x: " + (last + 10 + a));
                Check.refuses(ARGUMENT, () -> x.equation(0, 0, 2, 0, last + 10 + attribute), "y: " + (last + 10 + a));
            }
        }
    }

    /** Promise 4: "or it is attribute 2 of a terminal" - in each place; 1 and 6 are, and 8 and 13 are none. */
    private static void equationWithAttributeTwoOfATerminal() {
        GrammarWorks x = new GrammarWorks();
        x.rule(8, 1, 8, 6, 13);
        x.rule(8, 8, 1, 13, 6);
        x.equation(0, 0, 0, 0, 0);
        x.equation(1, 0, 0, 0, 0);
        for (int place = 1; place <= 4; place++) {
            int code = 10 * place + 2;
            int with = place % 2;
            Check.refuses(ARGUMENT, () -> x.equation(1 - with, 0, 1, code, 0), "x: a terminal's " + code);
            Check.refuses(ARGUMENT, () -> x.equation(1 - with, 0, 6, 0, code), "y: a terminal's " + code);
            Check.answers(0, () -> x.equation(with, 0, 1, code, 0), "x: a nonterminal's " + code);
            Check.answers(0, () -> x.equation(with, 0, 6, 0, code), "y: a nonterminal's " + code);
        }
    }

    /** Promise 4: "or no attribute." The last is 2, and there is none below 0. */
    private static void equationWithoutAttribute() {
        for (int k : new int[] {3, 9, 13, 19, 33, 39, -1, -8, -10, -20}) {
            int no = k;
            Portrait.refusesAndKeeps(ARGUMENT, Portrait::busy, x -> x.equation(0, 0, 1, no, 0), "x " + k);
            Portrait.refusesAndKeeps(ARGUMENT, Portrait::busy, x -> x.equation(0, 0, 2, 0, no), "y " + k);
        }
        Portrait.refusesAndKeeps(ARGUMENT, Portrait::busy, x -> x.equation(0, 1, 2, 0, 22), "no new one comes of it");
    }

    /** Promise 6: "FIRST of a symbol (not 0) as a sum of 2 to the power of each terminal" - from 0 to 126. */
    private static void firstOfEachTerminal() {
        GrammarWorks x = new GrammarWorks();
        for (int k = 1; k <= 6; k++) {
            int terminal = k;
            x.rule(8, k, 0, 0, 0);
            x.rule(13, 7 + k, 0, 0, 0);
            Check.answers(1L << k, () -> x.first(terminal), "FIRST of terminal " + k);
            Check.answers((2L << k) - 2, () -> x.first(8), "FIRST of the terminals to " + k);
            Check.answers((2L << k) - 2, () -> x.first(13), "FIRST of what begins with 8");
            Check.answers(0, () -> x.first(9), "FIRST of what has no rules");
        }
    }

    /** Promise 6: "and 1 if it derives the empty sequence" - with all terminals that is 127; no terminal does. */
    private static void firstOfWhatIsEmpty() {
        GrammarWorks x = new GrammarWorks();
        x.rule(13, 8, 8, 8, 8);
        Check.answers(0, () -> x.first(13), "not yet");
        x.rule(8, 0, 0, 0, 0);
        Check.answers(1, () -> x.first(8), "an empty rule");
        Check.answers(1, () -> x.first(13), "four symbols with one");
        for (int k = 1; k <= 6; k++) {
            x.rule(8, k, 0, 0, 0);
        }
        Check.answers(127, () -> x.first(8), "all that can be");
        Check.answers(127, () -> x.first(13), "and all behind it");
        Check.answers(2, () -> x.first(1), "a terminal");
        x.rule(12, 13, 13, 13, 1);
        Check.answers(126, () -> x.first(12), "a terminal behind what can be empty");
    }

    /** Promise 6: "built or not." Also behind a build that failed. */
    private static void firstBuiltOrNot() {
        GrammarWorks x = Portrait.busy();
        Check.answers(2, () -> x.first(8), "built");
        x.rule(8, 3, 0, 0, 0);
        Check.answers(2 + 8, () -> x.first(8), "not built");
        x.build();
        Check.answers(2 + 8, () -> x.first(8), "built again");
        x.clear();
        Check.answers(0, () -> x.first(8), "with nothing to build");
        GrammarWorks large = TableTest.broad(9);
        Check.refuses(UnsupportedOperationException.class, large::build, "too many states");
        Check.answers(126, () -> large.first(8), "not to be built");
    }

    /** Promise 6: "IllegalArgumentException: no symbol." The end, 0, is none, nor is 7. */
    private static void firstOfNoSymbol() {
        Portrait.refusesAndKeeps(ARGUMENT, Portrait::busy, x -> x.first(0), "FIRST of the end");
        for (int k : Edges.NO_SYMBOLS) {
            int no = k;
            Portrait.refusesAndKeeps(ARGUMENT, Portrait::busy, x -> x.first(no), "FIRST of " + k);
        }
    }

    /** Promise 15: "Takes away all rules, equations, levels, kinds and tokens" - each of them, also the last. */
    private static void clearTakesAll() {
        GrammarWorks x = fourteen();
        for (int k = 0; k < 14; k++) {
            x.equation(k, 0, 0, 5, 0);
        }
        for (int k = 1; k <= 6; k++) {
            x.level(k, 9, 2);
        }
        x.clear();
        Check.answers(0, () -> x.count(0), "no rules");
        Check.answers(0, () -> x.count(1), "no equations");
        Check.answers(0, () -> x.count(6), "no tokens");
        Check.answers(0, () -> x.first(9), "nothing begins with anything");
        Check.refuses(ELEMENT, () -> x.equation(0, 0, 0, 0, 0), "no first rule");
        Check.refuses(ELEMENT, () -> x.equation(13, 0, 0, 0, 0), "no last rule");
        for (int k = 1; k <= 6; k++) {
            int terminal = k;
            Check.answers(0, () -> x.level(terminal, 0, 0), "no level of " + k);
        }
        Check.compare(Portrait.of(new GrammarWorks()), Portrait.of(x), "nothing parsed, and cleared: like a new object");
    }

    /** Promise 15: "Takes away all rules, equations, levels, kinds and tokens": there is room for as many again. */
    private static void clearMakesRoom() {
        GrammarWorks x = new GrammarWorks();
        for (int k = 1; k <= 40; k++) {
            x.token(1, k);
        }
        for (int round = 0; round <= 1; round++) {
            for (int k = 0; k < 14; k++) {
                int number = k;
                Check.answers(k, () -> x.rule(9, 10, 10, 10, 10), "rule " + k + " in its round");
                for (int code : new int[] {0, 1, 12, 22, 32, 42}) {
                    Check.answers(1, () -> x.equation(number, code, 0, 5, 0), "equation for " + code + " of " + k);
                }
            }
            Check.answers(84, () -> x.count(1), "equations of a round");
            if (round == 0) {
                x.clear();
            }
        }
        for (int k = 1; k <= 40; k++) {
            int number = k;
            Check.answers(k, () -> x.token(1, number), "token " + k + " behind clear");
        }
        Check.refuses(STATE, () -> x.rule(9, 10, 0, 0, 0), "a 15th rule");
        Check.refuses(STATE, () -> x.token(1, 1), "a 41st token");
    }

    /** Promise 15: "nothing is built" - even if nothing was, or there was nothing to take away. */
    private static void clearUnbuilds() {
        GrammarWorks x = Portrait.busy();
        x.clear();
        Portrait.isNotBuilt(x, "behind clear");
        Check.refuses(STATE, x::build, "nor can it be");
        x.clear();
        Portrait.isNotBuilt(x, "behind clear once more");
    }

    /** Promise 15: "tree and fault stay." */
    private static void clearKeepsTreeAndFault() {
        GrammarWorks x = Portrait.busy();
        x.clear();
        Check.answers(1, x::fault, "the fault stays");
        Check.answers(2, () -> x.count(5), "the nodes stay");
        int[][] facts = {{1, -1, 1, 1}, {8, 1, -1, 0}};
        long[][] values = {{71, 0, 0}, {71, 0, 0}};
        for (int n = 0; n < 2; n++) {
            int node = n;
            for (int k = 0; k < 4; k++) {
                int what = k;
                Check.answers(facts[n][k], () -> x.node(node, what), "node " + n + ", " + k);
            }
            for (int a = 0; a < 3; a++) {
                int attribute = a;
                Check.answers(values[n][a], () -> x.attribute(node, attribute), "attribute " + a + " of node " + n);
            }
        }
        x.rule(9, 0, 0, 0, 0);
        x.build();
        Check.answers(71, () -> x.attribute(1, 0), "the attributes stay also behind other rules");
    }

    /** Promise 15: "Answers how many rules there were." From none to 14. */
    private static void clearTellsTheRules() {
        GrammarWorks x = new GrammarWorks();
        for (int k = 0; k <= 14; k++) {
            for (int r = 0; r < k; r++) {
                x.rule(8, 1, 0, 0, 0);
            }
            Check.answers(k, x::clear, "clear of " + k);
        }
        Check.answers(0, x::clear, "clear of what was cleared");
    }

    /** Promise 16: "Rules (0) and equations (1)" - from none to 14 and 84, built or not. */
    private static void countsOfRulesAndEquations() {
        GrammarWorks x = new GrammarWorks();
        Check.answers(0, () -> x.count(0), "no rules");
        Check.answers(0, () -> x.count(1), "no equations");
        for (int k = 0; k < 14; k++) {
            x.rule(8, 8, 8, 8, 8);
            for (int code : new int[] {0, 1, 12, 22, 32, 42}) {
                x.equation(k, code, 0, 0, 0);
            }
        }
        Check.answers(14, () -> x.count(0), "14 rules");
        Check.answers(84, () -> x.count(1), "84 equations");
        GrammarWorks built = Portrait.busy();
        Check.answers(2, () -> built.count(0), "rules, built");
        Check.answers(4, () -> built.count(1), "equations, built");
    }

    /** Promise 16: "states (2)", Promise 16: "1 if it is circular (4) of what is built, else 0": from 2 to 50 states. */
    private static void countsOfWhatIsBuilt() {
        GrammarWorks x = new GrammarWorks();
        x.rule(8, 0, 0, 0, 0);
        x.equation(0, 0, 1, 0, 0);
        Check.answers(0, () -> x.count(2), "states, not built");
        Check.answers(0, () -> x.count(4), "circular, but not built");
        x.build();
        Check.answers(2, () -> x.count(2), "the fewest states");
        Check.answers(1, () -> x.count(4), "circular");
        x.level(1, 0, 0);
        Check.answers(0, () -> x.count(2), "states, not built any more");
        Check.answers(0, () -> x.count(4), "circular, but not built any more");
        x.equation(0, 0, 0, 0, 0);
        x.build();
        Check.answers(0, () -> x.count(4), "built, but not circular");
        GrammarWorks large = TableTest.broad(6);
        large.build();
        Check.answers(50, () -> large.count(2), "the most states");
    }

    /** Promise 16: "conflicts, one for each state and t (3)": however many are left there. */
    private static void countsOfConflicts() {
        GrammarWorks x = new GrammarWorks();
        x.rule(8, 9, 0, 0, 0);
        x.rule(9, 1, 0, 0, 0);
        x.build();
        Check.answers(0, () -> x.count(3), "none");
        x.rule(9, 1, 0, 0, 0);
        x.rule(9, 1, 0, 0, 0);
        Check.answers(0, () -> x.count(3), "not built");
        x.build();
        Check.answers(1, () -> x.count(3), "three rules at the end are one");
        x.rule(8, 9, 2, 0, 0);
        x.build();
        Check.answers(2, () -> x.count(3), "in one state at two t are two");
        x.rule(9, 3, 9, 0, 0);
        x.rule(9, 4, 0, 0, 0);
        x.rule(9, 4, 0, 0, 0);
        x.build();
        Check.answers(4, () -> x.count(3), "at two t in two states are four");
    }

    /** Promise 16: "nodes of the last tree (5), tokens (6)." From none to 150 and 40. */
    private static void countsOfTreeAndTokens() {
        GrammarWorks x = ParseTest.lists();
        Check.answers(0, () -> x.count(5), "no tree");
        for (int k = 1; k <= 38; k++) {
            int due = k;
            x.token(k <= 36 ? 1 : k == 37 ? 2 : 3, 0);
            Check.answers(due, () -> x.count(6), "tokens");
        }
        Check.answers(0, () -> x.count(5), "no tree yet");
        x.parse();
        Check.answers(150, () -> x.count(5), "the most nodes");
        Check.answers(0, () -> x.count(6), "no tokens any more");
        for (int k = 1; k <= 40; k++) {
            x.token(1, 0);
        }
        Check.answers(40, () -> x.count(6), "the most tokens");
        Check.answers(150, () -> x.count(5), "the tree is the last one");
        x.clear();
        x.rule(8, 0, 0, 0, 0);
        x.build();
        x.parse();
        Check.answers(1, () -> x.count(5), "the fewest nodes");
    }

    /** Promise 16: "IllegalArgumentException: another number." 0 and 6 are the last that are counted by. */
    private static void countOfAnotherNumber() {
        for (int k : Edges.outside(0, 6)) {
            int no = k;
            Portrait.refusesAndKeeps(ARGUMENT, Portrait::busy, x -> x.count(no), "count " + k);
        }
        Check.refuses(ARGUMENT, () -> new GrammarWorks().count(7), "count 7 of a new object");
    }
}
