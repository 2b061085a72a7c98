import java.util.NoSuchElementException;

/** Promises 5, 7, 8 and 9: a test of its own for each sentence, with the boundaries that it names. */
public final class TableBoundaryTest {
    private static final Class<IllegalArgumentException> ARGUMENT = IllegalArgumentException.class;
    private static final Class<IllegalStateException> STATE = IllegalStateException.class;
    private static final Class<NoSuchElementException> ELEMENT = NoSuchElementException.class;
    private static final Class<UnsupportedOperationException> OVERFULL = UnsupportedOperationException.class;

    public static void main(String[] args) {
        buildTellsTheStates();
        buildTestsForRings();
        buildOnceMore();
        buildOfOneBehindAnother();
        buildThatThrows();
        buildWithoutRule();
        buildOfFiftyStates();
        buildOfMoreThanFiftyStates();
        actionOfEachSort();
        actionBeforeBuild();
        actionInNoState();
        actionAtNoTerminal();
        goByEachNonterminal();
        goThatIsNone();
        goBeforeBuild();
        goInNoState();
        goByNoNonterminal();
        lookaheadsFromNoneToAll();
        lookaheadsOfTheDotAtTheEnd();
        lookaheadsBeforeBuild();
        lookaheadsInNoState();
        lookaheadsOfNoRule();
        lookaheadsOfNoItem();
        Check.end();
    }

    private static GrammarWorks one(int left, int a, int b, int c, int d) {
        GrammarWorks x = new GrammarWorks();
        x.rule(left, a, b, c, d);
        return x;
    }

    /** Promise 5: "Builds the table" and Promise 5: "answers the number of states." The fewest are two. */
    private static void buildTellsTheStates() {
        GrammarWorks empty = one(8, 0, 0, 0, 0);
        Check.answers(2, empty::build, "an empty rule");
        Check.answers(-1, () -> empty.action(0, 0), "it is reduced at the end");
        Check.answers(1000, () -> empty.action(1, 0), "and accepted");
        Check.answers(2, one(13, 13, 0, 0, 0)::build, "a rule of its own left side");
        Check.answers(3, one(8, 9, 0, 0, 0)::build, "a nonterminal without rules");
        Check.answers(6, one(8, 1, 2, 3, 4)::build, "four terminals");
        Check.answers(6, one(13, 6, 6, 6, 6)::build, "the same four times");
    }

    /** Promise 5: "and tests for rings" - each time anew. */
    private static void buildTestsForRings() {
        GrammarWorks x = one(8, 1, 0, 0, 0);
        x.equation(0, 0, 1, 0, 0);
        x.build();
        Check.answers(1, () -> x.count(4), "a ring of one attribute");
        x.equation(0, 0, 1, 1, 0);
        x.build();
        Check.answers(0, () -> x.count(4), "an attribute that hangs on another");
        x.equation(0, 1, 2, 10, 0);
        x.build();
        Check.answers(1, () -> x.count(4), "a ring of two");
        GrammarWorks y = one(8, 9, 0, 0, 0);
        y.rule(9, 1, 0, 0, 0);
        y.equation(0, 12, 1, 11, 0);
        y.equation(1, 1, 1, 2, 0);
        y.build();
        Check.answers(1, () -> y.count(4), "a ring of two rules");
        y.equation(1, 1, 1, 10, 0);
        y.build();
        Check.answers(0, () -> y.count(4), "1 of 9 hangs on 2 no more");
        y.equation(1, 0, 1, 2, 0);
        y.build();
        Check.answers(0, () -> y.count(4), "0 of 9 does, but is not asked for");
        y.equation(1, 1, 1, 0, 0);
        y.build();
        Check.answers(1, () -> y.count(4), "1 of 9 does over 0");
        y.clear();
        y.rule(8, 1, 0, 0, 0);
        y.rule(8, 9, 0, 0, 0);
        y.equation(1, 0, 1, 0, 0);
        y.build();
        Check.answers(0, () -> y.count(4), "9 has no tree any more");
    }

    /** Promise 5: "Builds the table": what is built is built again, just so. */
    private static void buildOnceMore() {
        GrammarWorks x = Portrait.busy();
        Check.answers(5, x::build, "build once more");
        Check.compare(Portrait.of(Portrait.busy()), Portrait.of(x), "it is as before");
    }

    /** Promise 5: "Builds the table": nothing is left in it of one that was built before, be it larger or smaller. */
    private static void buildOfOneBehindAnother() {
        int[][][] grammars = {
            {{8, 0, 0, 0, 0}},
            {{8, 8, 2, 8, 0}, {8, 8, 3, 8, 0}, {8, 2, 8, 0, 0}, {8, 1, 0, 0, 0}},
            {{8, 9, 2, 0, 0}, {9, 3, 9, 4, 0}, {9, 1, 0, 0, 0}},
            {{9, 1, 0, 0, 0}, {9, 3, 9, 4, 0}, {8, 9, 2, 0, 0}},
            {{8, 9, 10, 11, 0}, {9, 0, 0, 0, 0}, {10, 1, 0, 0, 0}, {10, 0, 0, 0, 0}, {11, 2, 0, 0, 0}, {11, 0, 0, 0, 0}},
            {{8, 2, 8, 0, 0}, {8, 3, 8, 0, 0}, {8, 8, 2, 2, 8}, {8, 1, 0, 0, 0}, {8, 1, 8, 8, 8}, {8, 8, 2, 0, 0}},
            {{13, 13, 13, 0, 0}, {13, 6, 0, 0, 0}, {13, 6, 6, 0, 0}},
            {{13, 6, 13, 6, 0}, {13, 0, 0, 0, 0}, {8, 13, 0, 0, 0}},
            {{9, 9, 2, 0, 0}, {9, 1, 2, 9, 2}, {9, 3, 9, 0, 0}},
        };
        for (int[][] next : grammars) {
            GrammarWorks fresh = new GrammarWorks();
            String due = tableOf(fresh, next);
            for (int[][] before : grammars) {
                GrammarWorks x = new GrammarWorks();
                giveAndBuild(x, before);
                x.clear();
                Check.compare(due, tableOf(x, next), "a table behind another");
            }
            GrammarWorks x = TableTest.broad(6);
            x.build();
            x.clear();
            Check.compare(due, tableOf(x, next), "a table behind a large one");
        }
    }

    private static void giveAndBuild(GrammarWorks x, int[][] rules) {
        for (int[] r : rules) {
            x.rule(r[0], r[1], r[2], r[3], r[4]);
        }
        x.build();
    }

    private static String tableOf(GrammarWorks x, int[][] rules) {
        giveAndBuild(x, rules);
        return Portrait.tableOf(x);
    }

    /** Promise 5: "If it throws nothing is built." All else is as before. */
    private static void buildThatThrows() {
        GrammarWorks x = Portrait.busy();
        x.clear();
        Check.refuses(STATE, x::build, "nothing to build");
        Portrait.isNotBuilt(x, "with nothing to build");
        GrammarWorks large = TableTest.broad(9);
        large.equation(0, 0, 1, 0, 0);
        Check.refuses(OVERFULL, large::build, "too much to build");
        Portrait.isNotBuilt(large, "with too much to build");
        Portrait.refusesAndKeeps(OVERFULL, TableBoundaryTest::grown, GrammarWorks::build, "build of what grew");
    }

    /** With a tree and a fault from rules before, and 14 rules that make more than 50 states. */
    private static GrammarWorks grown() {
        GrammarWorks x = Portrait.busy();
        x.clear();
        for (int k = 0; k < 13; k++) {
            x.rule(8, k % 6 + 1, k / 6 + 1, 9, 1);
            x.equation(k, 32, 1, 2, 0);
        }
        x.rule(9, 6, 6, 6, 6);
        x.level(6, 9, 2);
        Portrait.give(x, 1, 5, 2, 6);
        return x;
    }

    /** Promise 5: "IllegalStateException: no rule." One is enough. */
    private static void buildWithoutRule() {
        Portrait.refusesAndKeeps(STATE, GrammarWorks::new, GrammarWorks::build, "build of a new object");
        GrammarWorks x = new GrammarWorks();
        x.level(1, 1, 1);
        x.token(1, 1);
        Check.refuses(STATE, x::build, "levels and tokens are no rules");
        Check.answers(1, () -> x.count(6), "the token stays");
        x.rule(8, 1, 0, 0, 0);
        Check.answers(3, x::build, "with one rule");
    }

    /** Promise 5: "UnsupportedOperationException: more than 50 states." 50 are not too many, and all are there. */
    private static void buildOfFiftyStates() {
        GrammarWorks x = TableTest.broad(6);
        Check.answers(50, x::build, "50 states");
        Check.answers(-14, () -> x.action(49, 0), "the last of them");
        Check.answers(1, () -> x.lookaheads(49, 13), "its lookaheads");
        Check.answers(0, () -> x.go(49, 8), "none behind it");
    }

    /** Promise 5: "more than 50 states." Also one that is found last of all, and many more. */
    private static void buildOfMoreThanFiftyStates() {
        Portrait.refusesAndKeeps(OVERFULL, () -> TableTest.broad(9), GrammarWorks::build, "51 states");
        int[][] rules = {{12, 1, 9, 13, 9}, {10, 8, 11, 1, 8}, {9, 1, 1, 1, 1}, {11, 13, 12, 1, 13}, {12, 9, 1, 10, 1},
            {10, 12, 13, 13, 8}, {11, 10, 12, 10, 9}, {12, 12, 11, 11, 11}, {13, 1, 1, 12, 11}, {10, 10, 11, 1, 12},
            {8, 1, 13, 8, 9}, {13, 13, 1, 11, 13}, {8, 1, 1, 8, 11}, {11, 12, 1, 9, 9}};
        GrammarWorks more = new GrammarWorks();
        for (int[] r : rules) {
            more.rule(r[0], r[1], r[2], r[3], r[4]);
        }
        Check.refuses(OVERFULL, more::build, "97 states");
    }

    /**
     * Promise 7: "What is left to be done in a state at t: 0 nothing, q shift (q: the state to which it goes),
     * -1 - r reduce by rule r, 1000 accept, 1001 a conflict." Rules 0 and 13, states 1 and 49, t 0 and 6.
     */
    private static void actionOfEachSort() {
        GrammarWorks x = TableTest.broad(6);
        x.build();
        Check.answers(0, () -> x.action(0, 0), "nothing");
        Check.answers(1, () -> x.action(0, 1), "shift to state 1");
        Check.answers(6, () -> x.action(0, 6), "shift at 6");
        Check.answers(1000, () -> x.action(7, 0), "accept");
        Check.answers(0, () -> x.action(7, 6), "nothing, as there is more");
        int secondLast = x.action(x.action(6, 4), 1);
        Check.answers(49, () -> x.action(secondLast, 1), "shift to state 49");
        Check.answers(-14, () -> x.action(49, 0), "reduce by rule 13");
        int first = x.action(x.action(x.action(1, 1), 1), 1);
        Check.answers(-1, () -> x.action(first, 0), "reduce by rule 0");
        Check.answers(0, () -> x.action(first, 1), "nothing at what is no lookahead");
        GrammarWorks twice = one(8, 6, 0, 0, 0);
        twice.rule(8, 6, 0, 0, 0);
        twice.build();
        Check.answers(1001, () -> twice.action(1, 0), "a conflict");
    }

    /** Promise 7: "IllegalStateException: nothing is built." Before all else that is wrong. */
    private static void actionBeforeBuild() {
        GrammarWorks x = one(8, 1, 0, 0, 0);
        Check.refuses(STATE, () -> x.action(0, 0), "action before build");
        Check.refuses(STATE, () -> x.action(-1, 0), "action in no state before build");
        Check.refuses(STATE, () -> x.action(0, 7), "action at 7 before build");
    }

    /** Promise 7: "IllegalArgumentException: no such state" - the last is one less than there are. */
    private static void actionInNoState() {
        for (int k : Edges.outside(0, 4)) {
            int no = k;
            Portrait.refusesAndKeeps(ARGUMENT, Portrait::busy, x -> x.action(no, 0), "action in state " + k);
        }
        GrammarWorks x = TableTest.broad(6);
        x.build();
        Check.refuses(ARGUMENT, () -> x.action(50, 0), "action in state 50");
        x.clear();
        x.rule(8, 0, 0, 0, 0);
        x.build();
        Check.answers(1000, () -> x.action(1, 0), "the last of two");
        Check.refuses(ARGUMENT, () -> x.action(2, 0), "what was a state before");
    }

    /** Promise 7: "or t not 0 .. 6." */
    private static void actionAtNoTerminal() {
        for (int k : Edges.outside(0, 6)) {
            int no = k;
            Portrait.refusesAndKeeps(ARGUMENT, Portrait::busy, x -> x.action(0, no), "action at " + k);
        }
        GrammarWorks x = Portrait.busy();
        for (int k = 0; k <= 6; k++) {
            int t = k;
            Check.answers(k == 1 ? 1 : 0, () -> x.action(0, t), "action at " + k);
        }
        Check.refuses(ARGUMENT, () -> x.action(0, 8), "a nonterminal by which it goes is no t");
    }

    /** Promise 8: "The state to which one goes by a nonterminal" - from 8 to 13, from state 1 to 49. */
    private static void goByEachNonterminal() {
        GrammarWorks x = one(8, 13, 12, 11, 10);
        x.rule(8, 9, 8, 0, 0);
        Check.answers(8, x::build, "build");
        int[] from = {1, 2, 0, 0, 0, 3};
        for (int k = 0; k < 6; k++) {
            int nonterminal = 8 + k;
            Check.answers(from[k], () -> x.go(0, nonterminal), "go from 0 by " + (8 + k));
        }
        Check.answers(4, () -> x.go(2, 8), "behind 9");
        Check.answers(2, () -> x.go(2, 9), "to itself");
        Check.answers(7, () -> x.go(x.go(x.go(3, 12), 11), 10), "to the last");
        GrammarWorks large = new GrammarWorks();
        for (int k = 0; k < 13; k++) {
            large.rule(8, k % 6 + 1, k / 6 + 1, 1, 1);
        }
        large.rule(8, 6, 4, 1, 9);
        large.build();
        int secondLast = large.action(large.action(6, 4), 1);
        Check.answers(49, () -> large.go(secondLast, 9), "to state 49");
    }

    /** Promise 8: "0 if it does not." Also from the last state, and by what is in no rule. */
    private static void goThatIsNone() {
        GrammarWorks x = Portrait.busy();
        int[] due = {2, 0, 0, 4, 0};
        for (int s = 0; s < 5; s++) {
            int state = s;
            Check.answers(due[s], () -> x.go(state, 8), "go by 8 from " + s);
            Check.answers(0, () -> x.go(state, 9), "go by 9 from " + s);
            Check.answers(0, () -> x.go(state, 13), "go by 13 from " + s);
        }
    }

    /** Promise 8: "IllegalStateException: nothing is built." Before all else that is wrong. */
    private static void goBeforeBuild() {
        GrammarWorks x = one(8, 8, 0, 0, 0);
        Check.refuses(STATE, () -> x.go(0, 8), "go before build");
        Check.refuses(STATE, () -> x.go(-1, 8), "go in no state before build");
        Check.refuses(STATE, () -> x.go(0, 7), "go by 7 before build");
    }

    /** Promise 8: "IllegalArgumentException: no such state" - the last is one less than there are. */
    private static void goInNoState() {
        for (int k : Edges.outside(0, 4)) {
            int no = k;
            Portrait.refusesAndKeeps(ARGUMENT, Portrait::busy, x -> x.go(no, 8), "go in state " + k);
        }
        GrammarWorks x = TableTest.broad(6);
        x.build();
        Check.answers(0, () -> x.go(49, 8), "go in state 49");
        Check.refuses(ARGUMENT, () -> x.go(50, 8), "go in state 50");
    }

    /** Promise 8: "or nonterminal." Neither are terminals, by which one goes, too, nor 0. */
    private static void goByNoNonterminal() {
        for (int k : Edges.NO_NONTERMINALS) {
            int no = k;
            Portrait.refusesAndKeeps(ARGUMENT, Portrait::busy, x -> x.go(0, no), "go by " + k);
        }
    }

    /** Promise 9: "as a sum of 2 to the power of each." From none, 0, to all, 127. */
    private static void lookaheadsFromNoneToAll() {
        GrammarWorks x = new GrammarWorks();
        x.rule(8, 9, 10, 0, 0);
        x.rule(9, 0, 0, 0, 0);
        int due = 0;
        Check.answers(4, x::build, "build");
        Check.answers(0, () -> x.lookaheads(0, 1), "none, as 10 has no rules");
        for (int k = 6; k >= 1; k--) {
            x.rule(10, k, 0, 0, 0);
            x.build();
            due += 1 << k;
            int sum = due;
            Check.answers(sum, () -> x.lookaheads(0, 1), "the terminals from " + k + " on");
        }
        x.rule(10, 0, 0, 0, 0);
        x.build();
        Check.answers(127, () -> x.lookaheads(0, 1), "all");
        Check.answers(1, () -> x.lookaheads(x.go(0, 9), 8), "the end alone");
    }

    /** Promise 9: "The lookaheads of a rule's item, dot at the end, in a state": right sides of none to four symbols. */
    private static void lookaheadsOfTheDotAtTheEnd() {
        for (int k = 0; k <= 4; k++) {
            int length = k;
            GrammarWorks x = one(8, k > 0 ? 1 : 0, k > 1 ? 1 : 0, k > 2 ? 1 : 0, k > 3 ? 1 : 0);
            x.build();
            int end = k == 0 ? 0 : k == 1 ? 1 : k + 1;
            for (int s = 0; s < k + 2; s++) {
                int state = s;
                if (s == end) {
                    Check.answers(1, () -> x.lookaheads(state, 0), "length " + length + ", state " + s);
                } else {
                    Check.refuses(ELEMENT, () -> x.lookaheads(state, 0), "length " + length + ", state " + s);
                }
            }
        }
    }

    /** Promise 9: "IllegalStateException: nothing is built." Before all else that is wrong. */
    private static void lookaheadsBeforeBuild() {
        GrammarWorks x = one(8, 0, 0, 0, 0);
        Check.refuses(STATE, () -> x.lookaheads(0, 0), "lookaheads before build");
        Check.refuses(STATE, () -> x.lookaheads(-1, 0), "lookaheads in no state before build");
        Check.refuses(STATE, () -> x.lookaheads(0, -1), "lookaheads of no rule before build");
    }

    /** Promise 9: "IllegalArgumentException: no such state." Before it is asked for the rule. */
    private static void lookaheadsInNoState() {
        for (int k : Edges.outside(0, 4)) {
            int no = k;
            Portrait.refusesAndKeeps(ARGUMENT, Portrait::busy, x -> x.lookaheads(no, 0), "lookaheads in state " + k);
            Portrait.refusesAndKeeps(ARGUMENT, Portrait::busy, x -> x.lookaheads(no, 14), "of no rule in state " + k);
        }
        GrammarWorks x = TableTest.broad(6);
        x.build();
        Check.refuses(ARGUMENT, () -> x.lookaheads(50, 13), "lookaheads in state 50");
    }

    /** Promise 9: "NoSuchElementException: no such rule" - the goal, which is at its end in state 2, is none. */
    private static void lookaheadsOfNoRule() {
        for (int k : Edges.outside(0, 1)) {
            for (int s : new int[] {0, 2, 4}) {
                int no = k;
                int state = s;
                String what = "lookaheads of rule " + k + " in state " + s;
                Portrait.refusesAndKeeps(ELEMENT, Portrait::busy, x -> x.lookaheads(state, no), what);
            }
        }
        GrammarWorks x = TableTest.broad(6);
        x.build();
        for (int s = 0; s < 50; s++) {
            int state = s;
            Check.refuses(ELEMENT, () -> x.lookaheads(state, 14), "lookaheads of rule 14 in state " + s);
        }
    }

    /** Promise 9: "or the item is not in the state." One with its dot elsewhere is another item. */
    private static void lookaheadsOfNoItem() {
        int[][] absent = {{0, 0}, {0, 1}, {1, 0}, {2, 0}, {2, 1}, {3, 0}, {3, 1}, {4, 1}};
        for (int[] pair : absent) {
            String what = "lookaheads of rule " + pair[1] + " in state " + pair[0];
            Portrait.refusesAndKeeps(ELEMENT, Portrait::busy, x -> x.lookaheads(pair[0], pair[1]), what);
        }
        GrammarWorks x = Portrait.busy();
        Check.answers(5, () -> x.lookaheads(1, 1), "it is in state 1");
        Check.answers(5, () -> x.lookaheads(4, 0), "it is in state 4");
    }
}
