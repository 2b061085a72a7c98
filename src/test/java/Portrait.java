import java.util.function.Supplier;
import java.util.function.ToLongFunction;

/** All that an object tells of itself, as one text. Objects that hold the same have the same portrait. */
final class Portrait {
    /** So many calls are promised; those that made the object are among them. */
    private static final int MOST_CALLS = 400;

    private final GrammarWorks x;
    private final StringBuilder text = new StringBuilder();
    private int calls = 0;

    private Portrait(GrammarWorks x) {
        this.x = x;
    }

    /** Takes a portrait, for which the object has to give away its tokens, levels and equations in the end. */
    static String of(GrammarWorks x) {
        Portrait portrait = new Portrait(x);
        portrait.given();
        portrait.table();
        portrait.tree();
        portrait.add("parse", x::parse);
        portrait.tree();
        portrait.add("build", x::build);
        portrait.table();
        portrait.levelsAndEquations();
        Check.holds(portrait.calls <= MOST_CALLS, "a portrait takes not too many calls: " + portrait.calls);
        return portrait.text.toString();
    }

    /** Counts and table of what is built, for which the object gives nothing away. */
    static String tableOf(GrammarWorks x) {
        Portrait portrait = new Portrait(x);
        portrait.given();
        portrait.table();
        Check.holds(portrait.calls <= MOST_CALLS, "a table takes not too many calls: " + portrait.calls);
        return portrait.text.toString();
    }

    /** All nodes of the last tree, with their attributes. */
    static String treeOf(GrammarWorks x) {
        Portrait portrait = new Portrait(x);
        portrait.nodes();
        return portrait.text.toString();
    }

    static void isNotBuilt(GrammarWorks x, String when) {
        for (int k = 2; k <= 4; k++) {
            int what = k;
            Check.answers(0, () -> x.count(what), when + ": count " + k);
        }
        Class<IllegalStateException> due = IllegalStateException.class;
        Check.refuses(due, () -> x.action(0, 0), when + ": action");
        Check.refuses(due, () -> x.go(0, 8), when + ": go");
        Check.refuses(due, () -> x.lookaheads(0, 0), when + ": lookaheads");
        Check.refuses(due, x::parse, when + ": parse");
    }

    /** The call throws this, and leaves the object just as one that was made in the same way without the call. */
    static void refusesAndKeeps(Class<? extends RuntimeException> due, Supplier<GrammarWorks> maker,
            ToLongFunction<GrammarWorks> call, String what) {
        GrammarWorks x = maker.get();
        Check.refuses(due, () -> call.applyAsLong(x), what);
        Check.compare(of(maker.get()), of(x), what + ": what it leaves");
    }

    /**
     * An object that has everything there is: rules, levels, equations, a table without conflicts, a tree, a fault
     * from a parse behind it, and tokens that can be parsed.
     */
    static GrammarWorks busy() {
        GrammarWorks x = new GrammarWorks();
        x.rule(8, 8, 2, 8, 0);
        x.rule(8, 1, 0, 0, 0);
        x.level(2, 5, 1);
        x.level(4, 9, 2);
        x.equation(0, 0, 3, 10, 30);
        x.equation(0, 12, 2, 2, 21);
        x.equation(1, 0, 1, 10, 0);
        x.equation(1, 1, 2, 2, 11);
        x.build();
        give(x, 1, 71);
        x.parse();
        give(x, 1, 72, 1, 73);
        Check.refuses(IllegalArgumentException.class, x::parse, "the fault of an object that has everything");
        give(x, 1, 100, 2, 20, 1, 30, 2, 40, 1, 5);
        return x;
    }

    /** Gives tokens: a terminal and a value for each. */
    static void give(GrammarWorks x, int... tokens) {
        for (int k = 0; k + 1 < tokens.length; k += 2) {
            x.token(tokens[k], tokens[k + 1]);
        }
    }

    private void add(String what, Check.Call call) {
        calls++;
        text.append(what).append('=').append(Check.outcome(call)).append(' ');
    }

    private int ask(int what) {
        calls++;
        return x.count(what);
    }

    private void given() {
        for (int k = 0; k <= 6; k++) {
            int what = k;
            add("count" + k, () -> x.count(what));
        }
        add("fault", x::fault);
        for (int symbol = 8; symbol <= 13; symbol++) {
            int nonterminal = symbol;
            add("first" + symbol, () -> x.first(nonterminal));
        }
    }

    private void table() {
        add("action", () -> x.action(0, 0));
        int states = ask(2);
        int rules = ask(0);
        for (int s = 0; s < states; s++) {
            int state = s;
            for (int k = 0; k <= 6; k++) {
                int t = k;
                add("action" + s + "," + k, () -> x.action(state, t));
            }
            for (int k = 8; k <= 13; k++) {
                int nonterminal = k;
                add("go" + s + "," + k, () -> x.go(state, nonterminal));
            }
            for (int k = 0; k < rules; k++) {
                int rule = k;
                add("lookaheads" + s + "," + k, () -> x.lookaheads(state, rule));
            }
        }
    }

    private void tree() {
        add("fault", x::fault);
        add("tokens", () -> x.count(6));
        nodes();
    }

    private void nodes() {
        int nodes = ask(5);
        for (int n = 0; n < nodes; n++) {
            int node = n;
            for (int k = 0; k <= 3; k++) {
                int what = k;
                add("node" + n + "," + k, () -> x.node(node, what));
            }
            for (int k = 0; k <= 2; k++) {
                int attribute = k;
                add("attribute" + n + "," + k, () -> x.attribute(node, attribute));
            }
        }
    }

    private void levelsAndEquations() {
        for (int k = 1; k <= 6; k++) {
            int terminal = k;
            add("level" + k, () -> x.level(terminal, 0, 0));
        }
        int rules = ask(0);
        for (int k = 0; k < rules; k++) {
            int rule = k;
            for (int code : new int[] {0, 1, 12, 22, 32, 42}) {
                add("equation" + k + "," + code, () -> x.equation(rule, code, 0, 0, 0));
            }
        }
    }
}
