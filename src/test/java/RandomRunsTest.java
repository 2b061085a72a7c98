import java.util.List;
import java.util.Random;

/** Runs of calls, drawn with fixed seeds, on a GrammarWorks and on the Oracle: both have to answer alike. */
public final class RandomRunsTest {
    private static final int RUNS = 2500;

    private final Random random;
    private final GrammarWorks x = new GrammarWorks();
    private final Oracle due = new Oracle();
    private final StringBuilder history = new StringBuilder();
    private final boolean deep;

    private static long trees = 0;
    private static long faults = 0;
    private static long overfull = 0;
    private static long tooManyStates = 0;
    private static long circular = 0;
    private static long conflicting = 0;
    private static boolean failed = false;

    private RandomRunsTest(long seed) {
        random = new Random(seed);
        deep = seed % 4 == 0;
    }

    public static void main(String[] args) {
        long first = args.length > 0 ? Long.parseLong(args[0]) : 0;
        long runs = args.length > 1 ? Long.parseLong(args[1]) : RUNS;
        for (long seed = first; seed < first + runs && !failed; seed++) {
            new RandomRunsTest(seed).run();
        }
        System.out.println("trees " + trees + ", faults " + faults + ", overfull " + overfull
            + ", too many states " + tooManyStates + ", circular " + circular + ", with conflicts " + conflicting);
        Check.holds(trees > 0 && faults > 0 && overfull > 0, "runs have parses of all sorts");
        Check.holds(tooManyStates > 0 && circular > 0 && conflicting > 0, "runs have builds of all sorts");
        Check.end();
    }

    private String same(String call, Check.Call got, Check.Call want) {
        history.append(call).append("; ");
        String answer = Check.outcome(got);
        String right = Check.outcome(want);
        Check.compare(right, answer, call);
        if (!answer.equals(right) && !failed) {
            failed = true;
            System.out.println("in the run: " + history);
        }
        return right;
    }

    private void run() {
        for (int part = 0; part < 3 && !failed; part++) {
            giveGrammar();
            for (int round = 0; round < 3 && !failed; round++) {
                giveEquations(random.nextInt(6));
                buildAndLook();
                for (int k = 0; k < 3; k++) {
                    parseSomething();
                }
                strayCalls(8);
                if (random.nextInt(4) == 0) {
                    giveRule(3, 3, 2);
                }
            }
            if (random.nextInt(4) != 0) {
                same("clear()", x::clear, due::clear);
            }
        }
    }

    private void giveGrammar() {
        switch (random.nextInt(4)) {
            case 0:
                giveOperators();
                break;
            case 1:
                giveList();
                break;
            default:
                int count = deep ? 9 + random.nextInt(5) : 1 + random.nextInt(6);
                int nonterminals = 1 + random.nextInt(deep ? 6 : 3);
                int terminals = 1 + random.nextInt(6);
                for (int k = 0; k < count; k++) {
                    giveRule(nonterminals, terminals, k);
                }
        }
        int levels = random.nextInt(5);
        for (int k = 0; k < levels; k++) {
            level(1 + random.nextInt(6), random.nextInt(4), random.nextInt(3));
        }
    }

    private void giveRule(int nonterminals, int terminals, int number) {
        int[] right = new int[4];
        int length = deep ? 4 - random.nextInt(3) : random.nextInt(5);
        for (int k = 0; k < length; k++) {
            boolean nonterminal = random.nextInt(5) < 2;
            right[k] = nonterminal ? 8 + random.nextInt(nonterminals) : 1 + random.nextInt(terminals);
        }
        int left = number < nonterminals && random.nextInt(3) != 0 ? 8 + number : 8 + random.nextInt(nonterminals);
        rule(left, right[0], right[1], right[2], right[3]);
    }

    private void giveOperators() {
        rule(8, 1, 0, 0, 0);
        for (int t = 2; t <= 2 + random.nextInt(4); t++) {
            switch (random.nextInt(4)) {
                case 0:
                    rule(8, t, 8, 0, 0);
                    break;
                case 1:
                    rule(8, t, 8, 6, 0);
                    break;
                default:
                    rule(8, 8, t, 8, 0);
            }
            level(t, 1 + random.nextInt(3), random.nextInt(3));
        }
    }

    /** A list of things, each in a chain of rules, so that many tokens make more nodes than there may be. */
    private void giveList() {
        rule(8, 9, 8, 0, 0);
        if (random.nextBoolean()) {
            rule(8, 0, 0, 0, 0);
        } else {
            rule(8, 9, 0, 0, 0);
        }
        int chain = random.nextInt(4);
        for (int k = 0; k < chain; k++) {
            rule(9 + k, 10 + k, 0, 0, 0);
        }
        rule(9 + chain, 1, 0, 0, 0);
        rule(9, 2, 8, 3, 0);
        if (random.nextBoolean()) {
            rule(9, 4, 5, 13, 0);
            rule(13, 0, 0, 0, 0);
            rule(13, 6, 13, 0, 0);
        }
    }

    private void giveEquations(int count) {
        int rules = due.count(0);
        for (int k = 0; k < count * rules / 2; k++) {
            int code = random.nextInt(5) * 10;
            code += code == 0 ? random.nextInt(2) : 2;
            equation(random.nextInt(rules), code, random.nextInt(8), someCode(), someCode());
        }
    }

    private int someCode() {
        return random.nextInt(4) * 10 + random.nextInt(3);
    }

    private void buildAndLook() {
        String answer = same("build()", x::build, due::build);
        tooManyStates += answer.equals("throws.UnsupportedOperationException") ? 1 : 0;
        for (int what = 0; what <= 6; what++) {
            count(what);
        }
        circular += due.count(4);
        conflicting += due.count(3) > 0 ? 1 : 0;
        for (int symbol = 1; symbol <= 13; symbol++) {
            first(symbol);
        }
        int states = due.count(2);
        for (int state = 0; state < states && !failed; state++) {
            for (int t = 0; t <= 6; t++) {
                action(state, t);
            }
            for (int symbol = 8; symbol <= 13; symbol++) {
                go(state, symbol);
            }
            for (int rule = 0; rule < due.count(0); rule++) {
                lookaheads(state, rule);
            }
        }
    }

    private void parseSomething() {
        List<Integer> sentence = random.nextInt(5) == 0 ? null : due.sentence(random);
        if (random.nextInt(6) == 0) {
            for (int k = 0; k < 40; k++) {
                token(random.nextInt(10) == 0 ? 1 + random.nextInt(6) : 1, k);
            }
        } else if (sentence == null) {
            for (int k = random.nextInt(8); k > 0; k--) {
                token(1 + random.nextInt(6), random.nextInt(20) - 6);
            }
        } else {
            for (int t : sentence) {
                token(random.nextInt(60) == 0 ? 1 + random.nextInt(6) : t, random.nextInt(20) - 6);
            }
        }
        String answer = same("parse()", x::parse, due::parse);
        faults += answer.equals("throws.IllegalArgumentException") ? 1 : 0;
        overfull += answer.equals("throws.UnsupportedOperationException") ? 1 : 0;
        trees += answer.startsWith("throws") ? 0 : 1;
        same("fault()", x::fault, due::fault);
        count(5);
        count(6);
        for (int node = 0; node <= due.count(5) && !failed; node++) {
            for (int what = 0; what <= 3; what++) {
                node(node, what);
                attribute(node, what);
            }
        }
    }

    private int any() {
        switch (random.nextInt(8)) {
            case 0:
                return random.nextInt();
            case 1:
                return random.nextBoolean() ? Integer.MAX_VALUE : Integer.MIN_VALUE;
            case 2:
                return random.nextInt(60) - 5;
            default:
                return random.nextInt(15) - 1;
        }
    }

    /** Calls with any arguments, in no order. */
    private void strayCalls(int count) {
        for (int k = 0; k < count; k++) {
            switch (random.nextInt(12)) {
                case 0:
                    rule(any(), any(), any(), random.nextBoolean() ? 0 : any(), random.nextBoolean() ? 0 : any());
                    break;
                case 1:
                    level(any(), any(), any());
                    break;
                case 2:
                    equation(any(), any(), any(), any(), any());
                    break;
                case 3:
                    first(any());
                    break;
                case 4:
                    action(any(), any());
                    break;
                case 5:
                    go(any(), any());
                    break;
                case 6:
                    lookaheads(any(), any());
                    break;
                case 7:
                    token(any(), any());
                    break;
                case 8:
                    node(any(), any());
                    break;
                case 9:
                    attribute(any(), any());
                    break;
                case 10:
                    same("parse()", x::parse, due::parse);
                    same("fault()", x::fault, due::fault);
                    break;
                default:
                    count(any());
            }
        }
    }

    private static String text(String name, int... arguments) {
        StringBuilder text = new StringBuilder(name).append('(');
        for (int k = 0; k < arguments.length; k++) {
            text.append(k == 0 ? "" : ", ").append(arguments[k]);
        }
        return text.append(')').toString();
    }

    private void rule(int left, int a, int b, int c, int d) {
        same(text("rule", left, a, b, c, d), () -> x.rule(left, a, b, c, d), () -> due.rule(left, a, b, c, d));
    }

    private void level(int t, int level, int kind) {
        same(text("level", t, level, kind), () -> x.level(t, level, kind), () -> due.level(t, level, kind));
    }

    private void equation(int rule, int code, int operation, int a, int b) {
        same(text("equation", rule, code, operation, a, b),
            () -> x.equation(rule, code, operation, a, b), () -> due.equation(rule, code, operation, a, b));
    }

    private void first(int symbol) {
        same(text("first", symbol), () -> x.first(symbol), () -> due.first(symbol));
    }

    private void action(int state, int t) {
        same(text("action", state, t), () -> x.action(state, t), () -> due.action(state, t));
    }

    private void go(int state, int symbol) {
        same(text("go", state, symbol), () -> x.go(state, symbol), () -> due.go(state, symbol));
    }

    private void lookaheads(int state, int rule) {
        same(text("lookaheads", state, rule), () -> x.lookaheads(state, rule), () -> due.lookaheads(state, rule));
    }

    private void token(int t, int value) {
        same(text("token", t, value), () -> x.token(t, value), () -> due.token(t, value));
    }

    private void node(int node, int what) {
        same(text("node", node, what), () -> x.node(node, what), () -> due.node(node, what));
    }

    private void attribute(int node, int a) {
        same(text("attribute", node, a), () -> x.attribute(node, a), () -> due.attribute(node, a));
    }

    private void count(int what) {
        same(text("count", what), () -> x.count(what), () -> due.count(what));
    }
}
