import java.util.NoSuchElementException;

/** Promises 5, 7, 8 and 9: the table, its conflicts, and the test for rings. */
public final class TableTest {
    private static final Class<IllegalArgumentException> ARGUMENT = IllegalArgumentException.class;
    private static final Class<IllegalStateException> STATE = IllegalStateException.class;
    private static final Class<NoSuchElementException> ELEMENT = NoSuchElementException.class;

    public static void main(String[] args) {
        statesAreNumberedAsTheyAreFound();
        refusals();
        lookaheadsOfEmptyRules();
        lookaheadsAreNotThoseOfFollow();
        lookaheadsThatComeLate();
        itemWithoutLookaheads();
        fiftyStates();
        fiftyOneStates();
        failedBuildLeavesNothingBuilt();
        levelsDecide();
        levelsThatDoNotDecide();
        conflicts();
        acceptAndReduce();
        ringInOneRule();
        ringThroughATree();
        ringOnlyInAWholeTree();
        ringAwayFromTheStart();
        ringOfTwoChildren();
        longWayWithoutRing();
        numbersMakeNoRing();
        Check.end();
    }

    private static GrammarWorks balanced() {
        GrammarWorks x = new GrammarWorks();
        x.rule(8, 9, 2, 0, 0);
        x.rule(9, 3, 9, 4, 0);
        x.rule(9, 1, 0, 0, 0);
        return x;
    }

    private static void statesAreNumberedAsTheyAreFound() {
        GrammarWorks x = balanced();
        Check.answers(8, x::build, "build");
        Check.answers(1, () -> x.action(0, 1), "by 1 from 0");
        Check.answers(2, () -> x.action(0, 3), "by 3 from 0");
        Check.answers(3, () -> x.go(0, 8), "by 8 from 0");
        Check.answers(4, () -> x.go(0, 9), "by 9 from 0");
        Check.answers(1, () -> x.action(2, 1), "by 1 from 2: a state that is there");
        Check.answers(2, () -> x.action(2, 3), "by 3 from 2: the state itself");
        Check.answers(5, () -> x.go(2, 9), "by 9 from 2");
        Check.answers(0, () -> x.go(2, 8), "by 8 from 2: not at all");
        Check.answers(0, () -> x.go(0, 13), "by 13, which is in no rule");
        Check.answers(6, () -> x.action(4, 2), "by 2 from 4");
        Check.answers(7, () -> x.action(5, 4), "by 4 from 5");
        Check.answers(1000, () -> x.action(3, 0), "accept");
        Check.answers(-1 - 2, () -> x.action(1, 2), "reduce by rule 2 at 2");
        Check.answers(-1 - 2, () -> x.action(1, 4), "reduce by rule 2 at 4");
        Check.answers(0, () -> x.action(1, 0), "nothing at the end");
        Check.answers(-1 - 0, () -> x.action(6, 0), "reduce by rule 0");
        Check.answers(4 + 16, () -> x.lookaheads(1, 2), "lookaheads of rule 2");
        Check.answers(4 + 16, () -> x.lookaheads(7, 1), "lookaheads of rule 1");
        Check.answers(1, () -> x.lookaheads(6, 0), "lookaheads of rule 0");
    }

    private static void refusals() {
        GrammarWorks x = balanced();
        Check.refuses(STATE, () -> x.action(-1, 9), "action before build, all wrong");
        Check.refuses(STATE, () -> x.go(-1, 0), "go before build, all wrong");
        Check.refuses(STATE, () -> x.lookaheads(-1, -1), "lookaheads before build, all wrong");
        x.build();
        int[] noStates = {Integer.MIN_VALUE, -1, 8, 49, 50, 51, Integer.MAX_VALUE};
        for (int state : noStates) {
            Check.refuses(ARGUMENT, () -> x.action(state, 0), "action in state " + state);
            Check.refuses(ARGUMENT, () -> x.go(state, 8), "go in state " + state);
            Check.refuses(ARGUMENT, () -> x.lookaheads(state, 0), "lookaheads in state " + state);
            Check.refuses(ARGUMENT, () -> x.lookaheads(state, -1), "lookaheads of no rule in state " + state);
        }
        int[] noTerminals = {Integer.MIN_VALUE, -1, 7, 8, Integer.MAX_VALUE};
        for (int t : noTerminals) {
            Check.refuses(ARGUMENT, () -> x.action(0, t), "action at " + t);
        }
        int[] noNonterminals = {Integer.MIN_VALUE, -1, 0, 1, 7, 14, Integer.MAX_VALUE};
        for (int symbol : noNonterminals) {
            Check.refuses(ARGUMENT, () -> x.go(0, symbol), "go by " + symbol);
        }
        int[] noRules = {Integer.MIN_VALUE, -1, 3, 13, 14, Integer.MAX_VALUE};
        for (int rule : noRules) {
            Check.refuses(ELEMENT, () -> x.lookaheads(3, rule), "lookaheads of rule " + rule);
        }
        Check.refuses(ELEMENT, () -> x.lookaheads(0, 2), "lookaheads of an item with its dot elsewhere");
        Check.refuses(ELEMENT, () -> x.lookaheads(1, 1), "lookaheads of an item of another state");
        GrammarWorks none = new GrammarWorks();
        Check.refuses(STATE, none::build, "build without rules");
    }

    private static void lookaheadsOfEmptyRules() {
        GrammarWorks x = new GrammarWorks();
        x.rule(8, 9, 10, 11, 0);
        x.rule(9, 0, 0, 0, 0);
        x.rule(10, 1, 0, 0, 0);
        x.rule(10, 0, 0, 0, 0);
        x.rule(11, 2, 0, 0, 0);
        x.rule(11, 0, 0, 0, 0);
        Check.answers(7, x::build, "build");
        Check.answers(1 + 2 + 4, () -> x.lookaheads(0, 1), "FIRST behind it and the end");
        int second = x.go(0, 9);
        Check.answers(1 + 4, () -> x.lookaheads(second, 3), "FIRST of one and the end");
        int third = x.go(second, 10);
        Check.answers(1, () -> x.lookaheads(third, 5), "the end alone");
        Check.answers(-1 - 5, () -> x.action(third, 0), "reduce by the empty rule");
        Check.answers(0, () -> x.count(3), "no conflicts");
    }

    /** A grammar that is LALR(1), but has a conflict where all that can follow counts. */
    private static void lookaheadsAreNotThoseOfFollow() {
        GrammarWorks x = new GrammarWorks();
        x.rule(8, 9, 1, 10, 0);
        x.rule(8, 10, 0, 0, 0);
        x.rule(9, 2, 10, 0, 0);
        x.rule(9, 3, 0, 0, 0);
        x.rule(10, 9, 0, 0, 0);
        Check.answers(10, x::build, "build");
        Check.answers(0, () -> x.count(3), "no conflicts");
        int state = x.go(0, 9);
        Check.answers(1, () -> x.lookaheads(state, 4), "only the end there");
    }

    /**
     * Terms: "LOOKAHEADS are the least sets": they come to a state on many ways, the last of them late, and still have to
     * be handed on there.
     */
    private static void lookaheadsThatComeLate() {
        GrammarWorks x = new GrammarWorks();
        x.rule(8, 2, 8, 0, 0);
        x.rule(8, 3, 8, 0, 0);
        x.rule(8, 8, 2, 2, 8);
        x.rule(8, 1, 0, 0, 0);
        x.rule(8, 1, 8, 8, 8);
        x.rule(8, 8, 2, 0, 0);
        x.build();
        int behindTwo = x.go(x.action(0, 2), 8);
        Check.answers(1 + 2 + 4 + 8, () -> x.lookaheads(behindTwo, 0), "what 2 begins can stand anywhere");
        int behindThree = x.go(x.action(0, 3), 8);
        Check.answers(1 + 2 + 4 + 8, () -> x.lookaheads(behindThree, 1), "what 3 begins can, too");
        int firstOfThree = x.go(x.action(0, 1), 8);
        int behindSecond = x.go(firstOfThree, 8);
        int behindThird = x.go(behindSecond, 8);
        Check.answers(1 + 2 + 4 + 8, () -> x.lookaheads(behindThird, 4), "what 1 begins can, too");
        // State 15 is behind 1 8 2 2 8: rule 0 has made the third of three there, rule 2 the first or second.
        Check.answers(1 + 2 + 4 + 8, () -> x.lookaheads(15, 0), "the end can come behind the third");
        Check.answers(2 + 4 + 8, () -> x.lookaheads(15, 2), "but not behind the first or second");
    }

    /** What has no rules begins with nothing and never ends: what stands before it is never at its end. */
    private static void itemWithoutLookaheads() {
        GrammarWorks x = new GrammarWorks();
        x.rule(8, 9, 10, 0, 0);
        x.rule(9, 1, 0, 0, 0);
        Check.answers(5, x::build, "build");
        Check.answers(0, () -> x.lookaheads(1, 1), "no lookaheads, but the item is there");
        Check.answers(0, () -> x.action(1, 0), "nothing is to be done there");
    }

    /**
     * Fourteen rules for 8 with four symbols each, no two of which begin with the same two symbols. The states
     * are state 0, the one behind 8, one for each first symbol, and three more for each rule.
     */
    static GrammarWorks broad(int lastFirst) {
        GrammarWorks x = new GrammarWorks();
        for (int k = 0; k < 13; k++) {
            x.rule(8, k % 6 + 1, k / 6 + 1, 1, 1);
        }
        x.rule(8, lastFirst, 4, 1, 1);
        return x;
    }

    private static void fiftyStates() {
        GrammarWorks x = broad(6);
        Check.answers(2 + 6 + 3 * 14, x::build, "50 states");
        Check.answers(50, () -> x.count(2), "50 states are built");
        Check.answers(-1 - 13, () -> x.action(49, 0), "the last state: behind the last symbols of rule 13");
        Check.refuses(ARGUMENT, () -> x.action(50, 0), "no state behind the last");
        x.token(6, 0);
        x.token(4, 0);
        x.token(1, 0);
        x.token(1, 0);
        Check.answers(5, x::parse, "a parse over the last state");
        Check.answers(13, () -> x.node(4, 1), "its rule");
    }

    private static void fiftyOneStates() {
        GrammarWorks x = broad(9);
        Check.refuses(UnsupportedOperationException.class, x::build, "51 states");
        Check.answers(14, () -> x.count(0), "the rules stay");
        for (int what = 2; what <= 4; what++) {
            int number = what;
            Check.answers(0, () -> x.count(number), "nothing is built: " + what);
        }
        Check.refuses(STATE, () -> x.action(0, 0), "no action");
        Check.refuses(STATE, () -> x.go(0, 8), "no go");
        Check.refuses(STATE, () -> x.lookaheads(0, 0), "no lookaheads");
        x.token(1, 0);
        Check.refuses(STATE, x::parse, "no parse");
        Check.answers(1, () -> x.count(6), "the tokens stay");
        Check.answers(16, () -> x.first(4), "FIRST is known all the same");
        Check.answers(14, x::clear, "clear");
        x.rule(8, 1, 0, 0, 0);
        Check.answers(3, x::build, "a small grammar behind it");
        Check.answers(0, () -> x.go(1, 8), "nothing is left of the large one");
        Check.answers(-1, () -> x.action(1, 0), "nothing is left of its actions");
    }

    private static void failedBuildLeavesNothingBuilt() {
        GrammarWorks x = balanced();
        x.build();
        x.clear();
        Check.refuses(STATE, x::build, "build without rules behind another");
        Check.refuses(STATE, () -> x.action(0, 0), "nothing is built then");
        Check.answers(0, () -> x.count(2), "no states then");
    }

    private static GrammarWorks operators() {
        GrammarWorks x = new GrammarWorks();
        x.rule(8, 8, 2, 8, 0);
        x.rule(8, 8, 3, 8, 0);
        x.rule(8, 2, 8, 0, 0);
        x.rule(8, 1, 0, 0, 0);
        return x;
    }

    /** The state in which rule 0 has its dot at the end. */
    private static int stateBehindSum(GrammarWorks x) {
        return x.go(x.action(x.go(0, 8), 2), 8);
    }

    private static void levelsDecide() {
        GrammarWorks x = operators();
        x.level(2, 1, 0);
        x.level(3, 2, 1);
        x.build();
        Check.answers(0, () -> x.count(3), "all is decided");
        int sum = stateBehindSum(x);
        int product = x.go(x.action(x.go(0, 8), 3), 8);
        int shiftTwo = x.action(x.go(0, 8), 2);
        int shiftThree = x.action(x.go(0, 8), 3);
        Check.answers(-1 - 0, () -> x.action(sum, 2), "alike, left: the rule");
        Check.answers(shiftThree, () -> x.action(sum, 3), "the rule's level is less: the shift");
        Check.answers(-1 - 1, () -> x.action(product, 2), "the rule's level is greater: the rule");
        Check.answers(shiftThree, () -> x.action(product, 3), "alike, right: the shift");
        x.level(2, 1, 2);
        x.build();
        Check.answers(0, () -> x.action(sum, 2), "alike, none: nothing");
        Check.answers(0, () -> x.count(3), "and that is no conflict");
        x.level(3, 1, 1);
        x.build();
        Check.answers(shiftThree, () -> x.action(sum, 3), "it is the kind of t that counts: right");
        Check.answers(0, () -> x.action(product, 2), "it is the kind of t that counts: none");
        Check.holds(shiftTwo > 0, "a shift is a state");
    }

    private static void levelsThatDoNotDecide() {
        GrammarWorks x = operators();
        x.level(2, 1, 0);
        x.build();
        int sum = stateBehindSum(x);
        Check.answers(-1, () -> x.action(sum, 2), "both have a level");
        Check.answers(1001, () -> x.action(sum, 3), "t has none");
        int product = x.go(x.action(x.go(0, 8), 3), 8);
        Check.answers(1001, () -> x.action(product, 2), "the rule has none");
        GrammarWorks last = new GrammarWorks();
        last.rule(8, 2, 8, 3, 8);
        last.rule(8, 1, 0, 0, 0);
        last.rule(8, 8, 4, 8, 0);
        last.level(2, 9, 0);
        last.level(3, 1, 0);
        last.level(4, 5, 0);
        last.build();
        int behind = last.go(last.action(last.go(last.action(0, 2), 8), 3), 8);
        Check.holds(last.action(behind, 4) > 0, "the level of the last terminal of the rule counts");
        last.level(3, 0, 0);
        last.build();
        Check.answers(1001, () -> last.action(behind, 4), "also if it has none and another has one");
        GrammarWorks empty = new GrammarWorks();
        empty.rule(8, 9, 1, 0, 0);
        empty.rule(9, 0, 0, 0, 0);
        empty.rule(9, 1, 0, 0, 0);
        empty.level(1, 3, 0);
        empty.build();
        Check.answers(1001, () -> empty.action(0, 1), "a rule without terminals has no level");
    }

    private static void conflicts() {
        GrammarWorks x = new GrammarWorks();
        x.rule(8, 9, 0, 0, 0);
        x.rule(8, 10, 0, 0, 0);
        x.rule(9, 1, 0, 0, 0);
        x.rule(10, 1, 0, 0, 0);
        x.rule(10, 1, 2, 0, 0);
        x.level(1, 1, 0);
        x.level(2, 2, 0);
        x.build();
        Check.answers(1001, () -> x.action(1, 0), "two rules");
        Check.answers(1, () -> x.count(3), "one conflict");
        x.rule(8, 9, 2, 0, 0);
        x.rule(8, 10, 2, 0, 0);
        x.build();
        Check.answers(1001, () -> x.action(1, 2), "a shift and two rules: levels do not help");
        Check.answers(2, () -> x.count(3), "two conflicts");
        GrammarWorks twice = new GrammarWorks();
        twice.rule(8, 1, 0, 0, 0);
        twice.rule(8, 1, 0, 0, 0);
        twice.build();
        Check.answers(1001, () -> twice.action(1, 0), "the same rule twice");
    }

    private static void acceptAndReduce() {
        GrammarWorks x = new GrammarWorks();
        x.rule(8, 8, 0, 0, 0);
        x.rule(8, 1, 0, 0, 0);
        Check.answers(3, x::build, "build");
        Check.answers(1001, () -> x.action(2, 0), "accept and a rule");
        Check.answers(1, () -> x.count(3), "one conflict");
        Check.refuses(STATE, x::parse, "no parse with a conflict");
    }

    private static void ringInOneRule() {
        GrammarWorks x = new GrammarWorks();
        x.rule(8, 1, 0, 0, 0);
        x.equation(0, 0, 1, 1, 0);
        x.equation(0, 1, 5, 10, 0);
        x.build();
        Check.answers(1, () -> x.count(4), "0 hangs on 1, and 1 on 0");
        x.equation(0, 1, 1, 10, 0);
        x.build();
        Check.answers(0, () -> x.count(4), "y is no code for operation 1");
        x.equation(0, 1, 7, 2, 1);
        x.build();
        Check.answers(1, () -> x.count(4), "1 hangs on itself, as y of operation 7");
    }

    private static void ringThroughATree() {
        GrammarWorks x = new GrammarWorks();
        x.rule(8, 9, 0, 0, 0);
        x.rule(9, 10, 0, 0, 0);
        x.rule(10, 1, 0, 0, 0);
        x.equation(0, 12, 1, 10, 0);
        x.equation(1, 12, 1, 2, 0);
        x.equation(1, 0, 1, 11, 0);
        x.equation(2, 0, 1, 2, 0);
        x.build();
        Check.answers(0, () -> x.count(4), "attribute 1 of the lowest does not hang on 2");
        x.equation(2, 1, 1, 0, 0);
        x.build();
        Check.answers(1, () -> x.count(4), "now it does, over attribute 0");
        x.token(1, 1);
        Check.refuses(STATE, x::parse, "no parse of what is circular");
        Check.answers(1, () -> x.count(6), "the tokens stay");
    }

    private static void ringOnlyInAWholeTree() {
        GrammarWorks x = new GrammarWorks();
        x.rule(8, 1, 0, 0, 0);
        x.rule(8, 9, 0, 0, 0);
        x.rule(9, 2, 9, 0, 0);
        x.equation(1, 0, 1, 0, 0);
        x.equation(2, 22, 1, 20, 0);
        x.equation(2, 0, 1, 2, 0);
        x.build();
        Check.answers(0, () -> x.count(4), "no tree has this rule in it");
        x.rule(9, 0, 0, 0, 0);
        x.build();
        Check.answers(1, () -> x.count(4), "now one has: an empty rule ends it");
    }

    private static void ringAwayFromTheStart() {
        GrammarWorks x = new GrammarWorks();
        x.rule(8, 1, 0, 0, 0);
        x.rule(13, 12, 12, 0, 0);
        x.rule(12, 1, 0, 0, 0);
        x.equation(1, 12, 1, 20, 0);
        x.equation(1, 22, 1, 11, 0);
        x.equation(2, 0, 1, 2, 0);
        x.build();
        Check.answers(0, () -> x.count(4), "a ring that is open");
        x.equation(2, 1, 1, 2, 0);
        x.build();
        Check.answers(1, () -> x.count(4), "the start does not reach it");
    }

    /** Attribute 0 of 9 hangs on 2 in some trees, attribute 1 in others; 10 asks for one after the other. */
    private static void ringOfTwoChildren() {
        GrammarWorks x = new GrammarWorks();
        x.rule(8, 1, 0, 0, 0);
        x.rule(9, 1, 0, 0, 0);
        x.rule(9, 2, 0, 0, 0);
        x.rule(10, 9, 9, 0, 0);
        x.equation(1, 0, 1, 2, 0);
        x.equation(2, 1, 1, 2, 0);
        x.equation(3, 12, 1, 20, 0);
        x.equation(3, 22, 1, 11, 0);
        x.build();
        Check.answers(1, () -> x.count(4), "the first 9 made by rule 2, the second by rule 1");
        x.equation(2, 1, 0, 2, 0);
        x.build();
        Check.answers(0, () -> x.count(4), "attribute 1 of 9 hangs on 2 in no tree");
    }

    /** Attributes of the left side are used on the right side, and those of one child for another. */
    private static void longWayWithoutRing() {
        GrammarWorks x = new GrammarWorks();
        x.rule(8, 9, 10, 0, 0);
        x.rule(9, 1, 0, 0, 0);
        x.rule(10, 2, 10, 0, 0);
        x.rule(10, 3, 0, 0, 0);
        x.equation(0, 22, 1, 10, 0);
        x.equation(0, 12, 1, 21, 0);
        x.equation(0, 0, 2, 20, 1);
        x.equation(0, 1, 2, 2, 10);
        x.equation(1, 0, 1, 2, 0);
        x.equation(2, 22, 1, 2, 0);
        x.equation(2, 0, 1, 20, 0);
        x.equation(2, 1, 1, 21, 0);
        x.equation(3, 0, 1, 2, 0);
        x.build();
        Check.answers(0, () -> x.count(4), "attribute 1 of 10 hangs on nothing");
        x.equation(3, 1, 1, 0, 0);
        x.build();
        Check.answers(1, () -> x.count(4), "attribute 1 of 10 hangs on 2 over 0, however deep it is");
    }

    private static void numbersMakeNoRing() {
        GrammarWorks x = new GrammarWorks();
        x.rule(8, 1, 0, 0, 0);
        x.equation(0, 0, 0, 0, 0);
        x.equation(0, 1, 0, 1, 1);
        x.build();
        Check.answers(0, () -> x.count(4), "the number of operation 0 is no code");
        x.equation(0, 1, 1, 11, 1);
        x.build();
        Check.answers(0, () -> x.count(4), "y of operation 1 is no code");
        x.equation(0, 1, 4, 11, 1);
        x.build();
        Check.answers(1, () -> x.count(4), "y of operation 4 is one");
    }
}
