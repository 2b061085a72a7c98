import java.util.NoSuchElementException;

/** The terms to the end of THE TABLE: a test for each of their sentences, with the boundaries that it names. */
public final class TermsTableTest {
    private static final Class<IllegalArgumentException> ARGUMENT = IllegalArgumentException.class;
    private static final Class<NoSuchElementException> ELEMENT = NoSuchElementException.class;

    public static void main(String[] args) {
        terminals();
        nonterminals();
        neitherOfThem();
        rulesOfNoneToFour();
        startIsThatOfRuleZero();
        levelsAndKindsAtFirst();
        kindsAreLeftRightAndNone();
        kindsOfEachTerminal();
        derivesAsOftenAsOneLikes();
        firstIsOfAllThatIsDerived();
        goalIsOneMoreRule();
        itemsBeforeBetweenAndBehind();
        statesHaveAllTheirRules();
        statesAreTheLeastSets();
        statesAreFoundByRisingNumber();
        goalHasTheEnd();
        lookaheadsGoWithTheDot();
        lookaheadsAreWhatIsBehind();
        lookaheadsGoOnBehindTheEmpty();
        lookaheadsOfOneStateAreOne();
        lookaheadsAreTheLeastSets();
        shiftReduceAndAccept();
        levelsDecideBetweenTwo();
        levelIsOfTheLastTerminal();
        levelIsOfALastTerminalAnywhere();
        levelsOfNothing();
        levelsAgainstMoreThanOneRule();
        twoThatAreLeft();
        Check.end();
    }

    private static GrammarWorks works(int[]... rules) {
        GrammarWorks x = new GrammarWorks();
        for (int[] r : rules) {
            int a = r.length > 1 ? r[1] : 0;
            int b = r.length > 2 ? r[2] : 0;
            int c = r.length > 3 ? r[3] : 0;
            int d = r.length > 4 ? r[4] : 0;
            x.rule(r[0], a, b, c, d);
        }
        return x;
    }

    private static GrammarWorks built(int[]... rules) {
        GrammarWorks x = works(rules);
        x.build();
        return x;
    }

    private static int[] r(int... symbols) {
        return symbols;
    }

    /** Terms: "TERMINALS are 1 .. 6, and 0 is the END" - each can be read and have a level, the end is at its t. */
    private static void terminals() {
        for (int k = 1; k <= 6; k++) {
            int terminal = k;
            GrammarWorks x = built(r(8, k));
            Check.answers(1, () -> x.action(0, terminal), "shift of " + k);
            Check.answers(1, () -> x.token(terminal, 0), "token " + k);
            Check.answers(2, x::parse, "parse of " + k);
            Check.answers(0, () -> x.level(terminal, 1, 0), "level of " + k);
            Check.refuses(ARGUMENT, () -> x.rule(terminal, 1, 0, 0, 0), "a terminal on the left, " + k);
        }
        GrammarWorks end = built(r(8));
        Check.answers(1000, () -> end.action(1, 0), "the end is accepted");
        Check.refuses(ARGUMENT, () -> end.token(0, 0), "but is no token");
        Check.refuses(ARGUMENT, () -> end.level(0, 1, 0), "has no level");
        Check.refuses(ARGUMENT, () -> end.first(0), "and no FIRST");
    }

    /** Terms: "NONTERMINALS are 8 .. 13; both are SYMBOLS." Each can be a left side, and stand on the right. */
    private static void nonterminals() {
        for (int k = 8; k <= 13; k++) {
            int nonterminal = k;
            GrammarWorks x = built(r(k, k, 6), r(k, 1));
            Check.answers(2, () -> x.go(0, nonterminal), "go by " + k);
            Check.answers(2, () -> x.first(nonterminal), "FIRST of " + k);
            Check.refuses(ARGUMENT, () -> x.token(nonterminal, 0), "token " + k);
            Check.refuses(ARGUMENT, () -> x.level(nonterminal, 0, 0), "level of " + k);
            Check.refuses(ARGUMENT, () -> x.action(0, nonterminal), "action at " + k);
        }
    }

    /** Terms: "both are SYMBOLS" - 7 is none, nor is 14. */
    private static void neitherOfThem() {
        GrammarWorks x = built(r(8, 1));
        for (int k : new int[] {7, 14}) {
            int no = k;
            Check.refuses(ARGUMENT, () -> x.rule(no, 1, 0, 0, 0), "left side " + k);
            Check.refuses(ARGUMENT, () -> x.rule(8, no, 0, 0, 0), "right side " + k);
            Check.refuses(ARGUMENT, () -> x.first(no), "FIRST of " + k);
            Check.refuses(ARGUMENT, () -> x.action(0, no), "action at " + k);
            Check.refuses(ARGUMENT, () -> x.go(0, no), "go by " + k);
            Check.refuses(ARGUMENT, () -> x.token(no, 0), "token " + k);
            Check.refuses(ARGUMENT, () -> x.level(no, 0, 0), "level of " + k);
        }
    }

    /**
     * Terms: "A RULE has a LEFT side, a nonterminal, and a RIGHT side of none to four symbols; rules are numbered
     * from 0, at most 14." Each of 14 is reduced by its number.
     */
    private static void rulesOfNoneToFour() {
        GrammarWorks x = built(r(8, 9, 10, 11, 12), r(9), r(10, 1), r(11, 2, 3), r(12, 4, 5, 6),
            r(12, 1, 1, 1, 1), r(12, 13, 2), r(13, 6), r(13), r(8), r(11, 4), r(10, 3), r(9, 4), r(11, 5, 5));
        Check.answers(14, () -> x.count(0), "14 rules");
        Portrait.give(x, 4, 0, 3, 0, 5, 0, 5, 0, 2, 0);
        Check.refuses(IllegalStateException.class, () -> x.rule(8, 1, 0, 0, 0), "a 15th");
        Check.answers(11, x::parse, "parse");
        int[] rules = {-1, 12, -1, 11, -1, -1, 13, 8, -1, 6, 0};
        for (int k = 0; k < rules.length; k++) {
            int node = k;
            Check.answers(rules[k], () -> x.node(node, 1), "rule of node " + k);
        }
    }

    /** Terms: "The START is the left side of rule 0." Not the lowest left side, nor that of another rule. */
    private static void startIsThatOfRuleZero() {
        GrammarWorks x = built(r(13, 2), r(8, 1), r(13, 3, 8));
        Check.answers(3, () -> x.go(0, 13), "it goes by the start");
        Check.answers(0, () -> x.go(0, 8), "not by another");
        Check.answers(1000, () -> x.action(3, 0), "the start is accepted");
        x.clear();
        x.rule(8, 1, 0, 0, 0);
        x.rule(13, 2, 0, 0, 0);
        Check.answers(3, x::build, "build with another start");
        Check.answers(2, () -> x.go(0, 8), "it goes by that");
        Check.answers(0, () -> x.go(0, 13), "not by the one before");
    }

    /** Terms: "A terminal has a LEVEL 0 .. 9" and Terms: "(all 0 at first)." 9 is above 8, and 1 is a level. */
    private static void levelsAndKindsAtFirst() {
        int[][] levels = {{9, 8}, {2, 1}, {9, 1}};
        for (int[] pair : levels) {
            for (int swap = 0; swap <= 1; swap++) {
                GrammarWorks x = works(r(8, 8, 2, 8), r(8, 8, 3, 8), r(8, 1));
                x.level(2, pair[swap], 0);
                x.level(3, pair[1 - swap], 0);
                x.build();
                Portrait.give(x, 1, 0, 2, 0, 1, 0, 3, 0, 1, 0);
                x.parse();
                int root = 1 - swap;
                Check.answers(root, () -> x.node(9, 1), "the rule at the root, level of 2 is " + pair[swap]);
            }
        }
        GrammarWorks none = built(r(8, 8, 2, 8), r(8, 1));
        Check.answers(1, () -> none.count(3), "without levels there is a conflict");
        Check.answers(0, () -> none.level(2, 0, 1), "level 0");
        none.build();
        Check.answers(1, () -> none.count(3), "level 0 does not help, whatever the kind");
        none.level(2, 1, 0);
        none.build();
        Check.answers(0, () -> none.count(3), "level 1 does");
    }

    /** Terms: "and a KIND, 0 left, 1 right, 2 none": 1 2 1 2 1 is bound to the left, to the right, or not at all. */
    private static void kindsAreLeftRightAndNone() {
        for (int k = 0; k <= 2; k++) {
            GrammarWorks x = works(r(8, 8, 2, 8), r(8, 1));
            x.equation(0, 0, 3, 10, 30);
            x.equation(1, 0, 1, 10, 0);
            x.level(2, 9, k);
            x.build();
            Portrait.give(x, 1, 100, 2, 0, 1, 10, 2, 0, 1, 1);
            if (k == 2) {
                Check.refuses(ARGUMENT, x::parse, "parse with kind 2");
                Check.answers(3, x::fault, "its fault");
            } else {
                int due = k == 0 ? 100 - 10 - 1 : 100 - (10 - 1);
                Check.answers(10, x::parse, "parse with kind " + k);
                Check.answers(due, () -> x.attribute(9, 0), "its value");
            }
        }
    }

    /** Terms: "A terminal has a LEVEL 0 .. 9 and a KIND": each of the six has its own. */
    private static void kindsOfEachTerminal() {
        for (int k = 1; k <= 6; k++) {
            int terminal = k;
            GrammarWorks x = works(r(8, 8, k, 8), r(8, k % 6 + 1));
            for (int kind = 0; kind <= 2; kind++) {
                for (int t = 1; t <= 6; t++) {
                    x.level(t, 5, t == k ? kind : (kind + 1) % 3);
                }
                x.build();
                int shift = x.action(x.go(0, 8), k);
                int due = kind == 0 ? -1 : kind == 1 ? shift : 0;
                Check.holds(shift > 0, "one goes by " + k);
                Check.answers(due, () -> x.action(x.go(shift, 8), terminal), "kind " + kind + " of terminal " + k);
            }
        }
    }

    /**
     * Terms: "A sequence of symbols DERIVES those that come of it by putting, as often as one likes, the right side
     * of a rule in place of its left side." Not at all, six times, or in a ring; the rules may come in any order.
     */
    private static void derivesAsOftenAsOneLikes() {
        for (int k = 0; k <= 1; k++) {
            GrammarWorks x = new GrammarWorks();
            for (int s = 0; s < 6; s++) {
                int left = k == 0 ? 8 + s : 13 - s;
                x.rule(left, left == 13 ? 5 : left + 1, 0, 0, 0);
            }
            for (int s = 8; s <= 13; s++) {
                int nonterminal = s;
                Check.answers(32, () -> x.first(nonterminal), "FIRST of " + s);
            }
            x.rule(13, 8, 0, 0, 0);
            x.rule(10, 0, 0, 0, 0);
            for (int s = 8; s <= 13; s++) {
                int nonterminal = s;
                Check.answers(33, () -> x.first(nonterminal), "FIRST of " + s + " in a ring");
            }
        }
        GrammarWorks none = new GrammarWorks();
        Check.answers(64, () -> none.first(6), "a terminal derives itself");
    }

    /** Terms: "FIRST of a sequence: all terminals with which something begins that it derives." It need not end. */
    private static void firstIsOfAllThatIsDerived() {
        GrammarWorks x = works(r(8, 9, 10, 11, 6), r(9), r(9, 1), r(10), r(10, 2, 10), r(11, 3, 12), r(11, 11, 4));
        Check.answers(2 + 4 + 8, () -> x.first(8), "what can be empty, and what is behind it");
        Check.answers(8, () -> x.first(11), "what 12, which has no rules, keeps from its end");
        x.rule(11, 12, 5, 0, 0);
        Check.answers(8, () -> x.first(11), "12 begins with no terminal");
        x.rule(12, 0, 0, 0, 0);
        Check.answers(8 + 32, () -> x.first(11), "but what is behind it does, if it can be empty");
    }

    /** Terms: "the GOAL is one more rule, whose right side is the start" - it is not counted, and not reduced. */
    private static void goalIsOneMoreRule() {
        GrammarWorks x = built(r(9, 9, 1), r(9, 2));
        Check.answers(2, () -> x.count(0), "rules");
        Check.answers(2, () -> x.go(0, 9), "behind the start");
        Check.answers(1000, () -> x.action(2, 0), "the goal is at its end");
        Check.answers(3, () -> x.action(2, 1), "and another rule goes on");
        for (int s = 0; s <= 3; s++) {
            int state = s;
            Check.refuses(ELEMENT, () -> x.lookaheads(state, 2), "lookaheads behind the last rule in " + s);
            Check.refuses(ELEMENT, () -> x.lookaheads(state, 14), "lookaheads of rule 14 in " + s);
        }
    }

    /** Terms: "THE TABLE. An ITEM is a rule with a dot in its right side (before, between or behind its symbols)". */
    private static void itemsBeforeBetweenAndBehind() {
        GrammarWorks x = works(r(8, 1, 1, 1, 1));
        Check.answers(6, x::build, "five items, and two of the goal, one of them with another");
        int[] shifts = {1, 3, 4, 5};
        int[] states = {0, 1, 3, 4};
        for (int k = 0; k < 4; k++) {
            int from = states[k];
            Check.answers(shifts[k], () -> x.action(from, 1), "shift from " + from);
        }
        Check.answers(-1, () -> x.action(5, 0), "the dot behind all");
        Check.answers(0, () -> x.action(5, 1), "no symbol behind it");
    }

    /**
     * Terms: "A STATE is a set of items with this: for each item with the dot before a nonterminal it has all items
     * with the dot at the beginning of the rules of which that is the left side." Over all six nonterminals.
     */
    private static void statesHaveAllTheirRules() {
        GrammarWorks x = built(r(8, 13, 1), r(9, 8, 2), r(10, 9, 3), r(11, 10, 4), r(12, 11, 5), r(13, 12, 6), r(9),
            r(13));
        for (int k = 8; k <= 13; k++) {
            int nonterminal = k;
            Check.holds(x.go(0, nonterminal) != 0, "state 0 goes by " + k);
        }
        Check.answers(8, () -> x.lookaheads(0, 6), "the empty rule of 9, with what is behind it");
        Check.answers(2, () -> x.lookaheads(0, 7), "the empty rule of 13");
    }

    /**
     * Terms: "State 0 is the least such set with the goal, dot at the beginning. If items of a state have the dot
     * before a symbol X, it GOES by X to the least such set that has all of these with the dot behind X."
     */
    private static void statesAreTheLeastSets() {
        GrammarWorks x = built(r(8, 1, 9, 2), r(8, 1, 9, 3), r(8, 4, 9, 2), r(9, 5), r(10), r(9, 6, 6));
        Check.refuses(ELEMENT, () -> x.lookaheads(0, 4), "state 0 has no rule of 10");
        Check.answers(0, () -> x.action(0, 5), "nor one of 9");
        int one = x.action(0, 1);
        int four = x.action(0, 4);
        Check.answers(x.action(one, 5), () -> x.action(four, 5), "the same set is the same state");
        int both = x.go(one, 9);
        Check.holds(x.action(both, 2) > 0 && x.action(both, 3) > 0, "two items go by 9 to one state");
        Check.holds(x.go(four, 9) != both, "one of them alone to another");
        Check.answers(0, () -> x.action(x.go(four, 9), 3), "which has no more");
        Check.answers(0, () -> x.action(both, 5), "no dot is before a 9 there any more");
    }

    /**
     * Terms: "States are numbered as they are found: for each state by rising number its symbols by rising number;
     * a set not found so far gets the next number." Terminals before nonterminals, and all of a state before the next.
     */
    private static void statesAreFoundByRisingNumber() {
        GrammarWorks x = built(r(13, 9, 6), r(13, 6, 13), r(13, 1, 8, 9), r(8, 6), r(9, 2), r(9, 8, 3));
        int[][] goes = {{0, 1, 1}, {0, 2, 2}, {0, 6, 3}, {0, 8, 4}, {0, 9, 5}, {0, 13, 6}, {1, 6, 7}, {1, 8, 8},
            {3, 1, 1}, {3, 2, 2}, {3, 6, 3}, {3, 8, 4}, {3, 9, 5}, {3, 13, 9}, {4, 3, 10}, {5, 6, 11}, {8, 2, 2},
            {8, 6, 7}, {8, 8, 4}, {8, 9, 12}};
        Check.answers(13, () -> x.count(2), "states");
        for (int[] g : goes) {
            String what = "from " + g[0] + " by " + g[1];
            Check.answers(g[2], () -> g[1] < 8 ? x.action(g[0], g[1]) : x.go(g[0], g[1]), what);
        }
    }

    /**
     * Terms: "LOOKAHEADS are the least sets of 0 .. 6 for the items in each state with: the goal in state 0 has 0" - and
     * nothing else.
     */
    private static void goalHasTheEnd() {
        GrammarWorks x = built(r(8, 9), r(9, 10), r(10, 6));
        Check.answers(1, () -> x.lookaheads(1, 2), "the end comes to the last rule");
        Check.answers(1, () -> x.lookaheads(x.go(0, 9), 0), "and to the first");
        Check.answers(1000, () -> x.action(x.go(0, 8), 0), "and to the goal");
        for (int k = 1; k <= 6; k++) {
            int t = k;
            Check.answers(0, () -> x.action(x.go(0, 8), t), "which has nothing else: " + k);
        }
    }

    /**
     * Terms: "an item with its dot before X gives its lookaheads to the same item, dot behind X, in the state to which
     * this one goes by X" - over four symbols, terminals or not.
     */
    private static void lookaheadsGoWithTheDot() {
        GrammarWorks x = built(r(8, 9, 6), r(9, 1, 10, 2, 10), r(10, 3), r(8, 9, 5));
        int end = x.go(x.action(x.go(x.action(0, 1), 10), 2), 10);
        Check.answers(32 + 64, () -> x.lookaheads(end, 1), "what is behind 9 in state 0");
    }

    /**
     * Terms: "for an item with B and a sequence R behind its dot (B a nonterminal) every item of B's rules with the dot
     * at the beginning has, in that state, FIRST of R" - over what can be empty, to the first that can't.
     */
    private static void lookaheadsAreWhatIsBehind() {
        GrammarWorks x = built(r(8, 9, 10, 11, 6), r(9, 1), r(9), r(10, 2), r(10), r(11, 3), r(11, 4));
        Check.answers(4 + 8 + 16, () -> x.lookaheads(1, 1), "FIRST of three symbols");
        Check.answers(4 + 8 + 16, () -> x.lookaheads(0, 2), "for every rule of 9");
        Check.answers(8 + 16, () -> x.lookaheads(x.go(0, 9), 4), "FIRST of two symbols");
        Check.answers(64, () -> x.lookaheads(x.action(x.go(x.go(0, 9), 10), 4), 6), "FIRST of a terminal");
    }

    /** Terms: "and the item's lookaheads, too, if R derives the empty sequence." R may be empty itself, or of three. */
    private static void lookaheadsGoOnBehindTheEmpty() {
        GrammarWorks x = built(r(8, 9, 5), r(9, 10, 11, 11, 11), r(10, 1), r(11, 2), r(11));
        Check.answers(4 + 32, () -> x.lookaheads(1, 2), "three behind it can be empty");
        x.rule(8, 12, 0, 0, 0);
        x.rule(12, 3, 10, 0, 0);
        x.build();
        int state = x.go(x.action(0, 3), 10);
        Check.answers(1, () -> x.lookaheads(state, 6), "nothing is behind it");
        Check.answers(1 + 4 + 32, () -> x.lookaheads(1, 2), "nor behind what is its last");
        GrammarWorks one = built(r(8, 9, 10, 11), r(9, 1), r(10), r(11, 2));
        Check.answers(4, () -> one.lookaheads(1, 1), "one of two behind it can't be empty");
    }

    /** Terms: "for the items in each state": a state found on two ways has the lookaheads of both, as LALR has it. */
    private static void lookaheadsOfOneStateAreOne() {
        GrammarWorks x = built(r(8, 1, 9, 4), r(8, 2, 10, 4), r(8, 1, 10, 5), r(8, 2, 9, 5), r(9, 3), r(10, 3));
        int state = x.action(x.action(0, 1), 3);
        Check.answers(state, () -> x.action(x.action(0, 2), 3), "one state on two ways");
        Check.answers(16 + 32, () -> x.lookaheads(state, 4), "lookaheads of 9 there");
        Check.answers(16 + 32, () -> x.lookaheads(state, 5), "lookaheads of 10 there");
        Check.answers(2, () -> x.count(3), "so there are two conflicts");
    }

    /** Terms: "LOOKAHEADS are the least sets": a state has none of what can stand behind its rules only elsewhere. */
    private static void lookaheadsAreTheLeastSets() {
        GrammarWorks x = built(r(8, 1, 9, 2), r(8, 3, 9, 4), r(9, 5, 9), r(9));
        Check.answers(4, () -> x.lookaheads(x.action(0, 1), 3), "behind 1 only 2 comes");
        Check.answers(16, () -> x.lookaheads(x.action(0, 3), 3), "behind 3 only 4");
        Check.answers(4 + 16, () -> x.lookaheads(x.action(x.action(0, 1), 5), 3), "behind 5 both");
    }

    /**
     * Terms: "What can be done in a state at t, 0 .. 6: SHIFT, if it goes by t; REDUCE by each rule whose item has its
     * dot at the end and t in its lookaheads; ACCEPT, if t is 0 and that item is the goal's." No rule is reduced at
     * other t, also if nothing else is there.
     */
    private static void shiftReduceAndAccept() {
        GrammarWorks x = built(r(8, 6, 8, 1), r(8, 2));
        int[][] due = {{0, 0, 1, 0, 0, 0, 2}, {-2, -2, 0, 0, 0, 0, 0}, {0, 0, 1, 0, 0, 0, 2}, {1000, 0, 0, 0, 0, 0, 0},
            {0, 5, 0, 0, 0, 0, 0}, {-1, -1, 0, 0, 0, 0, 0}};
        Check.answers(6, () -> x.count(2), "states");
        for (int s = 0; s < 6; s++) {
            for (int k = 0; k <= 6; k++) {
                int state = s;
                int t = k;
                Check.answers(due[s][k], () -> x.action(state, t), "state " + s + " at " + k);
            }
        }
    }

    /**
     * Terms: "If these are a shift and just one rule, whose last terminal has a level, L, and t has one, M (both not 0):
     * only the rule is left if L is greater than M, only the shift if it is less; if they are alike, the rule for kind 0
     * of t, the shift for 1, and nothing for 2." For all levels L of 2 and M of 3, and all kinds of both.
     */
    private static void levelsDecideBetweenTwo() {
        GrammarWorks x = works(r(8, 8, 2, 8), r(8, 8, 3, 8), r(8, 1));
        x.build();
        int sum = x.go(x.action(x.go(0, 8), 2), 8);
        int shift = x.action(x.go(0, 8), 3);
        Check.holds(sum > 0 && shift > 0, "the states to look at");
        for (int l = 0; l <= 9; l++) {
            for (int m = 0; m <= 9; m++) {
                for (int kinds = 0; kinds < 9; kinds++) {
                    GrammarWorks y = works(r(8, 8, 2, 8), r(8, 8, 3, 8), r(8, 1));
                    y.level(2, l, kinds / 3);
                    y.level(3, m, kinds % 3);
                    y.build();
                    int ofKind = kinds % 3 == 0 ? -1 : kinds % 3 == 1 ? shift : 0;
                    int due = l == 0 || m == 0 ? 1001 : l > m ? -1 : l < m ? shift : ofKind;
                    Check.answers(due, () -> y.action(sum, 3), "L " + l + ", M " + m + ", kinds " + kinds);
                }
            }
        }
    }

    /** Terms: "whose last terminal has a level, L" - not another's, also if that has one and the last has none. */
    private static void levelIsOfTheLastTerminal() {
        int[][] levels = {{9, 1, 5}, {1, 9, 5}, {9, 0, 5}, {0, 9, 5}};
        for (int[] l : levels) {
            GrammarWorks x = works(r(8, 2, 8, 3, 8), r(8, 8, 4, 8), r(8, 1));
            x.level(2, l[0], 0);
            x.level(3, l[1], 0);
            x.level(4, l[2], 0);
            x.build();
            int end = x.go(x.action(x.go(x.action(0, 2), 8), 3), 8);
            int shift = x.action(x.go(0, 8), 4);
            int due = l[1] == 0 ? 1001 : l[1] > 5 ? -1 : shift;
            Check.answers(due, () -> x.action(end, 4), "levels " + l[0] + ", " + l[1]);
        }
        GrammarWorks first = works(r(8, 3, 8), r(8, 8, 4, 8), r(8, 1));
        first.level(3, 9, 0);
        first.level(4, 5, 0);
        first.build();
        Check.answers(-1, () -> first.action(first.go(first.action(0, 3), 8), 4), "the first symbol is the last terminal");
    }

    /** Terms: "whose last terminal has a level, L" - it may be in the first place, or in the fourth. */
    private static void levelIsOfALastTerminalAnywhere() {
        int[][][] places = {
            {{9, 2}, {10, 11}}, {{9, 1, 2}, {10, 1, 11}}, {{9, 1, 1, 2}, {10, 1, 1, 11}}, {{9, 1, 1, 1, 2}, {10, 1, 1, 1, 11}},
        };
        for (int k = 0; k < 4; k++) {
            for (int l = 4; l <= 6; l += 2) {
                GrammarWorks x = works(r(8, 9, 3), r(8, 10), places[k][0], places[k][1], r(11, 2, 3));
                x.level(1, 10 - l, 0);
                x.level(2, l, 0);
                x.level(3, 5, 0);
                x.build();
                int state = 0;
                for (int t = 0; t < k; t++) {
                    state = x.action(state, 1);
                }
                int end = x.action(state, 2);
                Check.holds(end > 0, "one comes to the end of the rule");
                Check.holds(l > 5 || x.action(end, 3) > 0, "the shift is left in place " + (k + 1));
                Check.holds(l < 5 || x.action(end, 3) == -3, "the rule is left in place " + (k + 1));
            }
        }
    }

    /** Terms: "whose last terminal has a level": a rule without terminals, or without anything, has none. */
    private static void levelsOfNothing() {
        GrammarWorks x = works(r(8, 9, 1), r(9), r(9, 1));
        x.level(1, 9, 1);
        x.build();
        Check.answers(1001, () -> x.action(0, 1), "a rule without anything");
        GrammarWorks y = works(r(8, 8, 8), r(8, 1));
        y.level(1, 9, 1);
        y.build();
        Check.answers(1001, () -> y.action(y.go(y.go(0, 8), 8), 1), "a rule of nonterminals");
    }

    /** Terms: "If these are a shift and just one rule": two rules, with a shift or without, are not decided. */
    private static void levelsAgainstMoreThanOneRule() {
        GrammarWorks x = works(r(8, 9, 2), r(9, 1), r(9, 1), r(8, 1, 2, 2));
        x.level(1, 9, 0);
        x.level(2, 1, 0);
        x.build();
        Check.answers(1001, () -> x.action(x.action(0, 1), 2), "a shift and two rules");
        GrammarWorks y = works(r(8, 9, 2), r(8, 10, 2), r(9, 1), r(10, 3, 1), r(10, 1));
        y.level(1, 9, 0);
        y.level(2, 1, 0);
        y.build();
        Check.answers(1001, () -> y.action(y.action(0, 1), 2), "two rules");
    }

    /** Terms: "Two or more that are left are a CONFLICT." Accept and a rule, too, and three rules. */
    private static void twoThatAreLeft() {
        GrammarWorks x = built(r(8, 8), r(8, 1));
        Check.answers(1001, () -> x.action(2, 0), "accept and a rule");
        GrammarWorks y = built(r(8, 1), r(8, 1), r(8, 1));
        Check.answers(1001, () -> y.action(1, 0), "three rules");
        Check.answers(1, () -> y.count(3), "are one conflict");
        GrammarWorks z = built(r(8, 1, 8), r(8, 1), r(8, 8, 2));
        Check.answers(1, () -> z.count(3), "a shift and a rule");
    }
}
