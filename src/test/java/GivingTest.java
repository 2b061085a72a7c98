import java.util.NoSuchElementException;

/** Promises 1 to 4, 6, 15 and 16: a new object, and what is given to it and taken away. */
public final class GivingTest {
    private static final Class<IllegalArgumentException> ARGUMENT = IllegalArgumentException.class;
    private static final Class<IllegalStateException> STATE = IllegalStateException.class;
    private static final Class<NoSuchElementException> ELEMENT = NoSuchElementException.class;

    public static void main(String[] args) {
        newObject();
        rules();
        rulesRefused();
        fourteenRules();
        levels();
        equations();
        equationTargets();
        equationCodes();
        nothingIsBuiltBehindAChange();
        refusedCallsChangeNothing();
        firsts();
        firstsWithoutEnd();
        clears();
        counts();
        Check.end();
    }

    private static void newObject() {
        GrammarWorks x = new GrammarWorks();
        for (int what = 0; what <= 6; what++) {
            int number = what;
            Check.answers(0, () -> x.count(number), "new: count " + what);
        }
        Check.answers(-1, x::fault, "new: fault");
        Check.refuses(ELEMENT, () -> x.node(0, 0), "new: node");
        Check.refuses(ELEMENT, () -> x.attribute(0, 0), "new: attribute");
        Check.refuses(STATE, x::build, "new: build");
        Check.refuses(STATE, x::parse, "new: parse");
        Check.refuses(STATE, () -> x.action(0, 0), "new: action");
        Check.refuses(STATE, () -> x.go(0, 8), "new: go");
        Check.refuses(STATE, () -> x.lookaheads(0, 0), "new: lookaheads");
        Check.refuses(ELEMENT, () -> x.equation(0, 0, 0, 0, 0), "new: equation");
        Check.answers(0, x::clear, "new: clear");
        for (int symbol = 8; symbol <= 13; symbol++) {
            int nonterminal = symbol;
            Check.answers(0, () -> x.first(nonterminal), "new: first " + symbol);
        }
        for (int symbol = 1; symbol <= 6; symbol++) {
            int terminal = symbol;
            Check.answers(0, () -> x.level(terminal, 0, 0), "new: level " + symbol);
        }
    }

    private static void rules() {
        GrammarWorks x = new GrammarWorks();
        Check.answers(0, () -> x.rule(8, 0, 0, 0, 0), "empty rule");
        Check.answers(1, () -> x.rule(13, 13, 13, 13, 13), "rule of nonterminals");
        Check.answers(2, () -> x.rule(8, 1, 6, 8, 13), "full rule");
        Check.answers(3, () -> x.rule(8, 0, 0, 0, 0), "the same rule once more");
        Check.answers(4, () -> x.count(0), "five rules less one refused");
    }

    private static void rulesRefused() {
        GrammarWorks x = new GrammarWorks();
        int[] noNonterminals = {Integer.MIN_VALUE, -8, -1, 0, 1, 6, 7, 14, 15, Integer.MAX_VALUE};
        for (int left : noNonterminals) {
            Check.refuses(ARGUMENT, () -> x.rule(left, 1, 0, 0, 0), "rule with left side " + left);
        }
        int[] noSymbols = {Integer.MIN_VALUE, -8, -1, 7, 14, 15, Integer.MAX_VALUE};
        for (int symbol : noSymbols) {
            Check.refuses(ARGUMENT, () -> x.rule(8, symbol, 0, 0, 0), "rule with a " + symbol);
            Check.refuses(ARGUMENT, () -> x.rule(8, 1, symbol, 0, 0), "rule with b " + symbol);
            Check.refuses(ARGUMENT, () -> x.rule(8, 1, 2, symbol, 0), "rule with c " + symbol);
            Check.refuses(ARGUMENT, () -> x.rule(8, 1, 2, 3, symbol), "rule with d " + symbol);
        }
        Check.refuses(ARGUMENT, () -> x.rule(8, 0, 1, 0, 0), "b behind a 0");
        Check.refuses(ARGUMENT, () -> x.rule(8, 1, 0, 1, 0), "c behind a 0");
        Check.refuses(ARGUMENT, () -> x.rule(8, 1, 1, 0, 1), "d behind a 0");
        Check.refuses(ARGUMENT, () -> x.rule(8, 0, 0, 0, 1), "d behind three 0");
        Check.answers(0, () -> x.count(0), "no rule came of it");
    }

    private static void fourteenRules() {
        GrammarWorks x = new GrammarWorks();
        for (int k = 0; k < 14; k++) {
            int number = k;
            Check.answers(number, () -> x.rule(8 + number % 6, 1, 0, 0, 0), "rule " + k);
        }
        Check.refuses(STATE, () -> x.rule(8, 1, 0, 0, 0), "a 15th rule");
        Check.refuses(ARGUMENT, () -> x.rule(7, 1, 0, 0, 0), "a 15th rule with a wrong left side");
        Check.refuses(ARGUMENT, () -> x.rule(8, 0, 0, 0, 2), "a 15th rule with a wrong right side");
        Check.answers(14, () -> x.count(0), "14 rules");
        Check.answers(1, () -> x.equation(13, 0, 0, 5, 0), "an equation for the 14th rule");
    }

    private static void levels() {
        GrammarWorks x = new GrammarWorks();
        Check.answers(0, () -> x.level(1, 9, 2), "level first");
        Check.answers(9, () -> x.level(1, 3, 0), "level then");
        Check.answers(3, () -> x.level(1, 3, 1), "level once more");
        Check.answers(0, () -> x.level(6, 1, 0), "level of another");
        int[] noTerminals = {Integer.MIN_VALUE, -1, 0, 7, 8, 13, Integer.MAX_VALUE};
        for (int terminal : noTerminals) {
            Check.refuses(ARGUMENT, () -> x.level(terminal, 1, 0), "level of " + terminal);
        }
        int[] noLevels = {Integer.MIN_VALUE, -1, 10, Integer.MAX_VALUE};
        for (int level : noLevels) {
            Check.refuses(ARGUMENT, () -> x.level(1, level, 0), "level " + level);
        }
        int[] noKinds = {Integer.MIN_VALUE, -1, 3, Integer.MAX_VALUE};
        for (int kind : noKinds) {
            Check.refuses(ARGUMENT, () -> x.level(1, 1, kind), "kind " + kind);
        }
        Check.answers(3, () -> x.level(1, 0, 0), "level behind refused calls");
    }

    private static void equations() {
        GrammarWorks x = new GrammarWorks();
        x.rule(8, 9, 1, 0, 0);
        Check.answers(1, () -> x.equation(0, 0, 0, 1, 0), "equation that is new");
        Check.answers(0, () -> x.equation(0, 0, 1, 10, 0), "equation in place of one");
        Check.answers(1, () -> x.equation(0, 12, 0, 1, 0), "equation for another code");
        Check.answers(2, () -> x.count(1), "two equations");
        int[] noRules = {Integer.MIN_VALUE, -1, 1, 13, 14, Integer.MAX_VALUE};
        for (int rule : noRules) {
            Check.refuses(ELEMENT, () -> x.equation(rule, 0, 0, 0, 0), "equation of rule " + rule);
            Check.refuses(ELEMENT, () -> x.equation(rule, 99, 99, 99, 99), "wrong equation of rule " + rule);
        }
    }

    private static void equationTargets() {
        GrammarWorks x = new GrammarWorks();
        x.rule(8, 9, 1, 10, 0);
        for (int code = -50; code <= 60; code++) {
            int target = code;
            boolean due = code == 0 || code == 1 || code == 12 || code == 32;
            if (due) {
                Check.answers(1, () -> x.equation(0, target, 0, 7, 7), "equation for code " + code);
            } else {
                Check.refuses(ARGUMENT, () -> x.equation(0, target, 0, 7, 7), "equation for code " + code);
            }
        }
        x.rule(8, 0, 0, 0, 0);
        Check.refuses(ARGUMENT, () -> x.equation(1, 12, 0, 7, 7), "equation for a symbol of an empty rule");
        Check.refuses(ARGUMENT, () -> x.equation(1, Integer.MAX_VALUE, 0, 7, 7), "equation for the highest code");
        Check.refuses(ARGUMENT, () -> x.equation(1, Integer.MIN_VALUE, 0, 7, 7), "equation for the lowest code");
        x.rule(8, 9, 9, 9, 9);
        Check.answers(1, () -> x.equation(2, 42, 0, 7, 7), "equation for the fourth symbol");
        Check.answers(5, () -> x.count(1), "five equations");
    }

    private static void equationCodes() {
        for (int operation = -1; operation <= 8; operation++) {
            GrammarWorks x = new GrammarWorks();
            x.rule(8, 9, 1, 0, 0);
            for (int code = -12; code <= 45; code++) {
                checkCodes(x, operation, code);
            }
            Check.answers(0, () -> x.equation(0, 0, 0, Integer.MIN_VALUE, Integer.MAX_VALUE), "numbers of operation 0");
            Check.refuses(ARGUMENT, () -> x.equation(0, 0, 1, Integer.MIN_VALUE, 0), "the lowest code");
            Check.refuses(ARGUMENT, () -> x.equation(0, 0, 2, 0, Integer.MAX_VALUE), "the highest code");
        }
    }

    private static void checkCodes(GrammarWorks x, int operation, int code) {
        boolean isCode = code >= 0 && code <= 2 || code >= 10 && code <= 12 || code == 20 || code == 21;
        boolean isOperation = operation >= 0 && operation <= 7;
        x.equation(0, 0, 0, 0, 0);
        String what = "operation " + operation + " with code " + code;
        if (isOperation && (isCode || operation < 1)) {
            Check.answers(0, () -> x.equation(0, 0, operation, code, 0), what + " as x");
        } else {
            Check.refuses(ARGUMENT, () -> x.equation(0, 0, operation, code, 0), what + " as x");
        }
        if (isOperation && (isCode || operation < 2)) {
            Check.answers(0, () -> x.equation(0, 0, operation, 10, code), what + " as y");
        } else {
            Check.refuses(ARGUMENT, () -> x.equation(0, 0, operation, 10, code), what + " as y");
        }
    }

    private static void nothingIsBuiltBehindAChange() {
        GrammarWorks x = new GrammarWorks();
        x.rule(8, 1, 0, 0, 0);
        Check.answers(3, x::build, "build");
        x.rule(8, 2, 0, 0, 0);
        Check.refuses(STATE, () -> x.action(0, 0), "action behind rule");
        Check.answers(0, () -> x.count(2), "states behind rule");
        Check.answers(4, x::build, "build behind rule");
        x.level(1, 0, 0);
        Check.refuses(STATE, () -> x.go(0, 8), "go behind level");
        Check.answers(4, x::build, "build behind level");
        x.equation(0, 0, 0, 0, 0);
        Check.refuses(STATE, () -> x.lookaheads(0, 0), "lookaheads behind equation");
        Check.answers(4, x::build, "build behind equation");
        x.token(1, 1);
        Check.answers(4, () -> x.count(2), "states behind token");
        Check.answers(2, x::parse, "parse behind token");
        Check.answers(4, () -> x.count(2), "states behind parse");
        x.clear();
        Check.answers(0, () -> x.count(2), "states behind clear");
        Check.refuses(STATE, x::parse, "parse behind clear");
    }

    private static void refusedCallsChangeNothing() {
        GrammarWorks x = new GrammarWorks();
        x.rule(8, 9, 0, 0, 0);
        x.rule(9, 1, 0, 0, 0);
        x.equation(0, 0, 0, 5, 0);
        Check.answers(4, x::build, "build");
        Check.refuses(ARGUMENT, () -> x.rule(7, 0, 0, 0, 0), "rule refused");
        Check.refuses(ARGUMENT, () -> x.rule(8, 0, 1, 0, 0), "right side refused");
        Check.refuses(ARGUMENT, () -> x.level(1, 10, 0), "level refused");
        Check.refuses(ELEMENT, () -> x.equation(2, 0, 0, 5, 0), "equation of no rule refused");
        Check.refuses(ARGUMENT, () -> x.equation(0, 0, 1, 13, 0), "equation refused");
        Check.refuses(ARGUMENT, () -> x.token(0, 0), "token refused");
        Check.answers(4, () -> x.count(2), "states behind refused calls");
        Check.answers(1, () -> x.count(1), "equations behind refused calls");
        x.token(1, 0);
        Check.answers(3, x::parse, "parse behind refused calls");
        Check.answers(5, () -> x.attribute(2, 0), "the equation behind refused calls");
    }

    private static void firsts() {
        GrammarWorks x = new GrammarWorks();
        x.rule(8, 9, 10, 1, 0);
        x.rule(9, 2, 0, 0, 0);
        x.rule(9, 0, 0, 0, 0);
        x.rule(10, 9, 9, 0, 0);
        x.rule(10, 3, 8, 0, 0);
        for (int t = 1; t <= 6; t++) {
            int terminal = t;
            Check.answers(1L << t, () -> x.first(terminal), "FIRST of terminal " + t);
        }
        Check.answers(2 + 4 + 8, () -> x.first(8), "FIRST of 8");
        Check.answers(1 + 4, () -> x.first(9), "FIRST of 9");
        Check.answers(1 + 4 + 8, () -> x.first(10), "FIRST of 10");
        Check.answers(0, () -> x.first(11), "FIRST of a nonterminal without rules");
        int[] noSymbols = {Integer.MIN_VALUE, -1, 0, 7, 14, Integer.MAX_VALUE};
        for (int symbol : noSymbols) {
            Check.refuses(ARGUMENT, () -> x.first(symbol), "FIRST of " + symbol);
        }
        x.build();
        Check.answers(2 + 4 + 8, () -> x.first(8), "FIRST of 8, built");
        x.rule(11, 10, 6, 0, 0);
        Check.answers(4 + 8 + 64, () -> x.first(11), "FIRST of 11 behind a new rule");
        x.clear();
        Check.answers(0, () -> x.first(8), "FIRST behind clear");
        Check.answers(4, () -> x.first(2), "FIRST of a terminal behind clear");
    }

    /** What never comes to an end still begins with something, and stands in the way of what is behind it. */
    private static void firstsWithoutEnd() {
        GrammarWorks x = new GrammarWorks();
        x.rule(8, 1, 9, 0, 0);
        x.rule(8, 9, 2, 0, 0);
        x.rule(10, 10, 3, 0, 0);
        x.rule(10, 10, 0, 0, 0);
        x.rule(11, 12, 12, 12, 12);
        x.rule(12, 0, 0, 0, 0);
        Check.answers(2, () -> x.first(8), "a terminal before what has no rules, and behind it");
        Check.answers(0, () -> x.first(10), "what begins with itself alone");
        Check.answers(1, () -> x.first(11), "four symbols that derive the empty sequence");
        x.rule(12, 4, 11, 0, 0);
        Check.answers(1 + 16, () -> x.first(11), "a ring of rules");
    }

    private static void clears() {
        GrammarWorks x = new GrammarWorks();
        x.rule(8, 1, 2, 0, 0);
        x.rule(9, 9, 0, 0, 0);
        x.level(1, 5, 2);
        x.equation(0, 0, 2, 10, 20);
        x.build();
        x.token(1, 4);
        x.token(2, 5);
        x.parse();
        x.token(3, 1);
        Check.refuses(ARGUMENT, x::parse, "a parse with a fault");
        x.token(1, 4);
        Check.answers(2, x::clear, "clear tells the rules");
        for (int what = 0; what <= 6; what++) {
            int number = what;
            Check.answers(what == 5 ? 3 : 0, () -> x.count(number), "count behind clear: " + what);
        }
        Check.answers(0, x::fault, "the fault stays");
        Check.answers(9, () -> x.attribute(2, 0), "the tree stays");
        Check.answers(8, () -> x.node(2, 0), "the tree's symbols stay");
        Check.answers(0, () -> x.node(2, 1), "the tree's rules stay");
        Check.answers(0, () -> x.level(1, 0, 0), "levels are taken away");
        Check.answers(0, x::clear, "clear once more");
        clearTakesKindsAndEquations(x);
    }

    private static void clearTakesKindsAndEquations(GrammarWorks x) {
        x.rule(8, 8, 1, 8, 0);
        x.level(1, 1, 2);
        x.clear();
        x.rule(8, 8, 1, 8, 0);
        x.rule(8, 2, 0, 0, 0);
        x.build();
        Check.answers(1, () -> x.count(3), "without the level there is the conflict");
        Check.answers(1, () -> x.equation(0, 0, 0, 1, 0), "the equation was taken away");
        x.clear();
        x.rule(9, 3, 4, 0, 0);
        x.build();
        x.token(3, 8);
        x.token(4, 8);
        Check.answers(3, x::parse, "another start behind clear");
        Check.answers(0, () -> x.attribute(2, 0), "no equation of a rule before");
    }

    private static void counts() {
        GrammarWorks x = new GrammarWorks();
        int[] noCounts = {Integer.MIN_VALUE, -1, 7, Integer.MAX_VALUE};
        for (int what : noCounts) {
            Check.refuses(ARGUMENT, () -> x.count(what), "count " + what);
        }
        x.rule(8, 8, 8, 0, 0);
        x.rule(8, 1, 0, 0, 0);
        x.equation(0, 12, 1, 10, 0);
        x.equation(1, 0, 1, 2, 0);
        x.token(1, 0);
        x.token(2, 0);
        x.token(1, 0);
        long[] before = {2, 2, 0, 0, 0, 0, 3};
        long[] behind = {2, 2, 4, 1, 1, 0, 3};
        for (int what = 0; what <= 6; what++) {
            int number = what;
            Check.answers(before[what], () -> x.count(number), "count before build: " + what);
        }
        x.build();
        for (int what = 0; what <= 6; what++) {
            int number = what;
            Check.answers(behind[what], () -> x.count(number), "count behind build: " + what);
        }
    }
}
