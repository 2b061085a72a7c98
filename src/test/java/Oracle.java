import java.util.ArrayDeque;
import java.util.ArrayList;
import java.util.Deque;
import java.util.HashMap;
import java.util.HashSet;
import java.util.LinkedHashMap;
import java.util.LinkedHashSet;
import java.util.List;
import java.util.Map;
import java.util.NoSuchElementException;
import java.util.Set;
import java.util.TreeSet;

/**
 * The document once more, with sets and trees in place of numbers and bits, to compare GrammarWorks with.
 * It shares no code with it, and goes other ways where there are any.
 */
final class Oracle {
    private static final int GOAL = -1;

    private record Rule(int left, List<Integer> right) {
    }

    private record Item(int rule, int dot) {
    }

    private record Equation(int operation, int x, int y) {
    }

    private record Token(int terminal, int value) {
    }

    private static final class Node {
        int number;
        int symbol;
        int rule;
        Node parent;
        int childNumber;
        final List<Node> children = new ArrayList<>();
        final long[] attributes = new long[3];
    }

    /** A tree without numbers, for the test for rings. */
    private record Shape(int rule, List<Shape> children, int size) {
    }

    private final List<Rule> rules = new ArrayList<>();
    private final Map<List<Integer>, Equation> equations = new HashMap<>();
    private final Map<Integer, int[]> levels = new HashMap<>();
    private final List<Token> tokens = new ArrayList<>();
    private List<Node> tree = new ArrayList<>();
    private int fault = -1;

    private boolean built = false;
    private final List<Set<Item>> states = new ArrayList<>();
    private final List<Map<Integer, Integer>> goes = new ArrayList<>();
    private final List<Map<Item, Set<Integer>>> looks = new ArrayList<>();
    private boolean circular;

    private static boolean terminal(int s) {
        return s >= 1 && s <= 6;
    }

    private static boolean nonterminal(int s) {
        return s >= 8 && s <= 13;
    }

    int rule(int left, int a, int b, int c, int d) {
        if (!nonterminal(left)) {
            throw new IllegalArgumentException();
        }
        List<Integer> right = new ArrayList<>();
        boolean ended = false;
        for (int s : new int[] {a, b, c, d}) {
            if (s == 0) {
                ended = true;
            } else if (ended || !terminal(s) && !nonterminal(s)) {
                throw new IllegalArgumentException();
            } else {
                right.add(s);
            }
        }
        if (rules.size() == 14) {
            throw new IllegalStateException();
        }
        built = false;
        rules.add(new Rule(left, right));
        return rules.size() - 1;
    }

    int level(int terminal, int level, int kind) {
        if (!terminal(terminal) || level < 0 || level > 9 || kind < 0 || kind > 2) {
            throw new IllegalArgumentException();
        }
        built = false;
        int[] before = levels.put(terminal, new int[] {level, kind});
        return before == null ? 0 : before[0];
    }

    /** All codes that a rule has, with true for those for which an equation can be. */
    private Map<Integer, Boolean> codes(int rule) {
        Map<Integer, Boolean> codes = new HashMap<>();
        codes.put(0, true);
        codes.put(1, true);
        codes.put(2, false);
        List<Integer> right = rules.get(rule).right();
        for (int k = 1; k <= right.size(); k++) {
            codes.put(10 * k, false);
            codes.put(10 * k + 1, false);
            if (nonterminal(right.get(k - 1))) {
                codes.put(10 * k + 2, true);
            }
        }
        return codes;
    }

    int equation(int rule, int code, int operation, int x, int y) {
        if (rule < 0 || rule >= rules.size()) {
            throw new NoSuchElementException();
        }
        Map<Integer, Boolean> codes = codes(rule);
        if (!codes.getOrDefault(code, false) || operation < 0 || operation > 7) {
            throw new IllegalArgumentException();
        }
        if (operation >= 1 && !codes.containsKey(x) || operation >= 2 && !codes.containsKey(y)) {
            throw new IllegalArgumentException();
        }
        built = false;
        return equations.put(List.of(rule, code), new Equation(operation, x, y)) == null ? 1 : 0;
    }

    private Set<Integer> empties() {
        Set<Integer> empties = new HashSet<>();
        for (int round = 0; round < 7; round++) {
            for (Rule rule : rules) {
                if (empties.containsAll(rule.right())) {
                    empties.add(rule.left());
                }
            }
        }
        return empties;
    }

    /** The terminals to which one comes by going to any symbol with which a right side can begin. */
    private Set<Integer> firstOf(List<Integer> sequence) {
        Set<Integer> empties = empties();
        Set<Integer> seen = new HashSet<>();
        Deque<List<Integer>> waiting = new ArrayDeque<>();
        waiting.add(sequence);
        while (!waiting.isEmpty()) {
            for (int symbol : waiting.remove()) {
                if (seen.add(symbol)) {
                    for (Rule rule : rules) {
                        if (rule.left() == symbol) {
                            waiting.add(rule.right());
                        }
                    }
                }
                if (!empties.contains(symbol)) {
                    break;
                }
            }
        }
        seen.removeIf(symbol -> !terminal(symbol));
        return seen;
    }

    int first(int symbol) {
        if (!terminal(symbol) && !nonterminal(symbol)) {
            throw new IllegalArgumentException();
        }
        return sum(firstOf(List.of(symbol))) + (empties().contains(symbol) ? 1 : 0);
    }

    private static int sum(Set<Integer> terminals) {
        int sum = 0;
        for (int t : terminals) {
            sum += Math.round(Math.pow(2, t));
        }
        return sum;
    }

    private List<Integer> rightOf(int rule) {
        return rule == GOAL ? List.of(rules.get(0).left()) : rules.get(rule).right();
    }

    private Integer behindDot(Item item) {
        List<Integer> right = rightOf(item.rule());
        return item.dot() < right.size() ? right.get(item.dot()) : null;
    }

    private Set<Item> closed(Set<Item> kernel) {
        Set<Item> all = new HashSet<>(kernel);
        Deque<Item> waiting = new ArrayDeque<>(kernel);
        while (!waiting.isEmpty()) {
            Integer symbol = behindDot(waiting.remove());
            for (int r = 0; r < rules.size(); r++) {
                Item item = new Item(r, 0);
                if (symbol != null && rules.get(r).left() == symbol && all.add(item)) {
                    waiting.add(item);
                }
            }
        }
        return all;
    }

    int build() {
        built = false;
        if (rules.isEmpty()) {
            throw new IllegalStateException();
        }
        states.clear();
        goes.clear();
        states.add(closed(Set.of(new Item(GOAL, 0))));
        for (int s = 0; s < states.size(); s++) {
            Map<Integer, Integer> by = new HashMap<>();
            goes.add(by);
            for (int symbol = 1; symbol <= 13; symbol++) {
                Set<Item> moved = new HashSet<>();
                for (Item item : states.get(s)) {
                    if (Integer.valueOf(symbol).equals(behindDot(item))) {
                        moved.add(new Item(item.rule(), item.dot() + 1));
                    }
                }
                if (!moved.isEmpty()) {
                    Set<Item> next = closed(moved);
                    if (!states.contains(next)) {
                        states.add(next);
                    }
                    by.put(symbol, states.indexOf(next));
                }
            }
            if (states.size() > 50) {
                throw new UnsupportedOperationException();
            }
        }
        findLookaheads();
        circular = findRing();
        built = true;
        return states.size();
    }

    private void findLookaheads() {
        looks.clear();
        for (Set<Item> state : states) {
            Map<Item, Set<Integer>> map = new HashMap<>();
            for (Item item : state) {
                map.put(item, new TreeSet<>());
            }
            looks.add(map);
        }
        Deque<Map.Entry<Integer, Item>> waiting = new ArrayDeque<>();
        for (int s = 0; s < states.size(); s++) {
            for (Item item : states.get(s)) {
                waiting.add(Map.entry(s, item));
            }
        }
        looks.get(0).get(new Item(GOAL, 0)).add(0);
        while (!waiting.isEmpty()) {
            Map.Entry<Integer, Item> entry = waiting.remove();
            spread(entry.getKey(), entry.getValue(), waiting);
        }
    }

    private void spread(int s, Item item, Deque<Map.Entry<Integer, Item>> waiting) {
        Integer symbol = behindDot(item);
        if (symbol == null) {
            return;
        }
        Set<Integer> own = looks.get(s).get(item);
        int next = goes.get(s).get(symbol);
        Item moved = new Item(item.rule(), item.dot() + 1);
        if (looks.get(next).get(moved).addAll(own)) {
            waiting.add(Map.entry(next, moved));
        }
        List<Integer> right = rightOf(item.rule());
        List<Integer> rest = right.subList(item.dot() + 1, right.size());
        Set<Integer> given = new TreeSet<>(firstOf(rest));
        if (empties().containsAll(rest)) {
            given.addAll(own);
        }
        for (int r = 0; r < rules.size(); r++) {
            Item begin = new Item(r, 0);
            if (rules.get(r).left() == symbol && looks.get(s).get(begin).addAll(given)) {
                waiting.add(Map.entry(s, begin));
            }
        }
    }

    private int levelOf(int t) {
        return levels.containsKey(t) ? levels.get(t)[0] : 0;
    }

    private int decide(int s, int t) {
        Set<Integer> can = new LinkedHashSet<>();
        Integer shift = goes.get(s).get(t);
        if (shift != null) {
            can.add(shift);
        }
        List<Integer> reduces = new ArrayList<>();
        for (Item item : states.get(s)) {
            if (behindDot(item) == null && looks.get(s).get(item).contains(t)) {
                if (item.rule() == GOAL) {
                    can.add(1000);
                } else {
                    can.add(-1 - item.rule());
                    reduces.add(item.rule());
                }
            }
        }
        if (shift != null && reduces.size() == 1 && can.size() == 2) {
            int last = 0;
            for (int symbol : rightOf(reduces.get(0))) {
                last = terminal(symbol) ? symbol : last;
            }
            int l = levelOf(last);
            int m = levelOf(t);
            if (l != 0 && m != 0) {
                int kind = levels.get(t)[1];
                if (l < m || l == m && kind != 0) {
                    can.remove(-1 - reduces.get(0));
                }
                if (l > m || l == m && kind != 1) {
                    can.remove(shift);
                }
            }
        }
        return can.isEmpty() ? 0 : can.size() > 1 ? 1001 : can.iterator().next();
    }

    private int conflicts() {
        int conflicts = 0;
        for (int s = 0; s < states.size(); s++) {
            for (int t = 0; t <= 6; t++) {
                conflicts += decide(s, t) == 1001 ? 1 : 0;
            }
        }
        return conflicts;
    }

    private void needState(int state) {
        if (!built) {
            throw new IllegalStateException();
        }
        if (state < 0 || state >= states.size()) {
            throw new IllegalArgumentException();
        }
    }

    int action(int state, int t) {
        needState(state);
        if (t < 0 || t > 6) {
            throw new IllegalArgumentException();
        }
        return decide(state, t);
    }

    int go(int state, int symbol) {
        needState(state);
        if (!nonterminal(symbol)) {
            throw new IllegalArgumentException();
        }
        return goes.get(state).getOrDefault(symbol, 0);
    }

    int lookaheads(int state, int rule) {
        needState(state);
        if (rule < 0 || rule >= rules.size()) {
            throw new NoSuchElementException();
        }
        Set<Integer> found = looks.get(state).get(new Item(rule, rightOf(rule).size()));
        if (found == null) {
            throw new NoSuchElementException();
        }
        return sum(found);
    }

    /**
     * By symbol trees of each sort: a sort is the set of those of 0 and 1 at the root that hang on 2 there.
     * All choices of trees for the children of all rules are made, until no sort is new.
     */
    private boolean findRing() {
        Map<Integer, Map<Set<Integer>, Shape>> sorts = new HashMap<>();
        boolean grown = true;
        while (grown) {
            grown = false;
            for (int r = 0; r < rules.size(); r++) {
                for (List<Set<Integer>> choice : choices(rules.get(r).right(), sorts)) {
                    Set<Integer> sort = join(r, choice);
                    Shape shape = shape(r, choice, sorts);
                    compareWithWholeTree(shape, sort);
                    if (sort == null) {
                        return true;
                    }
                    Map<Set<Integer>, Shape> known = sorts.computeIfAbsent(rules.get(r).left(), s -> new LinkedHashMap<>());
                    if (!known.containsKey(sort)) {
                        known.put(sort, shape);
                        grown = true;
                    }
                }
            }
        }
        return false;
    }

    private List<List<Set<Integer>>> choices(List<Integer> right, Map<Integer, Map<Set<Integer>, Shape>> sorts) {
        List<List<Set<Integer>>> choices = new ArrayList<>();
        choices.add(List.of());
        for (int symbol : right) {
            Set<Set<Integer>> offered = terminal(symbol) ? Set.of(Set.of()) : sorts.getOrDefault(symbol, Map.of()).keySet();
            List<List<Set<Integer>>> longer = new ArrayList<>();
            for (List<Set<Integer>> choice : choices) {
                for (Set<Integer> sort : offered) {
                    List<Set<Integer>> more = new ArrayList<>(choice);
                    more.add(sort);
                    longer.add(more);
                }
            }
            choices = longer;
        }
        return choices;
    }

    private Shape shape(int rule, List<Set<Integer>> choice, Map<Integer, Map<Set<Integer>, Shape>> sorts) {
        List<Shape> children = new ArrayList<>();
        int size = 1;
        for (int k = 0; k < choice.size(); k++) {
            int symbol = rules.get(rule).right().get(k);
            Shape child = terminal(symbol) ? new Shape(-1, List.of(), 1) : sorts.get(symbol).get(choice.get(k));
            children.add(child);
            size = Math.min(1000000, size + child.size());
        }
        return new Shape(rule, children, size);
    }

    /** The sort of a tree with children of these sorts, null if it has a ring. */
    private Set<Integer> join(int rule, List<Set<Integer>> choice) {
        Map<Integer, Set<Integer>> hangs = new HashMap<>();
        for (int code : codes(rule).keySet()) {
            hangs.put(code, new HashSet<>(inputs(rule, code)));
        }
        for (int k = 1; k <= choice.size(); k++) {
            for (int a : choice.get(k - 1)) {
                hangs.get(10 * k + a).add(10 * k + 2);
            }
        }
        for (int code : hangs.keySet()) {
            if (reached(code, hangs).contains(code)) {
                return null;
            }
        }
        Set<Integer> sort = new TreeSet<>();
        for (int a = 0; a <= 1; a++) {
            if (reached(a, hangs).contains(2)) {
                sort.add(a);
            }
        }
        return sort;
    }

    private List<Integer> inputs(int rule, int code) {
        Equation e = equations.get(List.of(rule, code));
        return e == null || e.operation() == 0 ? List.of() : e.operation() == 1 ? List.of(e.x()) : List.of(e.x(), e.y());
    }

    private static Set<Integer> reached(int from, Map<Integer, Set<Integer>> hangs) {
        Set<Integer> seen = new HashSet<>();
        Deque<Integer> waiting = new ArrayDeque<>(hangs.getOrDefault(from, Set.of()));
        while (!waiting.isEmpty()) {
            int next = waiting.remove();
            if (seen.add(next)) {
                waiting.addAll(hangs.getOrDefault(next, Set.of()));
            }
        }
        return seen;
    }

    /** Looks at all attributes of the tree itself, if it is not too large. */
    private void compareWithWholeTree(Shape shape, Set<Integer> sort) {
        if (shape.size() > 60) {
            return;
        }
        Map<Integer, Set<Integer>> hangs = new HashMap<>();
        addHangs(shape, new int[] {0}, hangs);
        boolean ring = false;
        for (int slot : hangs.keySet()) {
            ring |= reached(slot, hangs).contains(slot);
        }
        if (ring != (sort == null)) {
            throw new Error("the tree itself tells otherwise of rings");
        }
        for (int a = 0; a <= 1 && sort != null; a++) {
            if (reached(a, hangs).contains(2) != sort.contains(a)) {
                throw new Error("the tree itself tells otherwise of its root");
            }
        }
    }

    /** Numbers the nodes from the root on; attribute a of node n is 3 * n + a. */
    private int addHangs(Shape shape, int[] nodes, Map<Integer, Set<Integer>> hangs) {
        int number = nodes[0]++;
        if (shape.rule() < 0) {
            return number;
        }
        List<Integer> numbers = new ArrayList<>();
        numbers.add(number);
        for (Shape child : shape.children()) {
            numbers.add(addHangs(child, nodes, hangs));
        }
        for (int code : codes(shape.rule()).keySet()) {
            for (int input : inputs(shape.rule(), code)) {
                hangs.computeIfAbsent(3 * numbers.get(code / 10) + code % 10, slot -> new HashSet<>())
                    .add(3 * numbers.get(input / 10) + input % 10);
            }
        }
        return number;
    }

    int token(int terminal, int value) {
        if (!terminal(terminal)) {
            throw new IllegalArgumentException();
        }
        if (tokens.size() == 40) {
            throw new IllegalStateException();
        }
        tokens.add(new Token(terminal, value));
        return tokens.size();
    }

    int parse() {
        if (!built || conflicts() > 0 || circular) {
            throw new IllegalStateException();
        }
        List<Token> input = new ArrayList<>(tokens);
        tokens.clear();
        fault = -1;
        List<Node> made = new ArrayList<>();
        Deque<Integer> stack = new ArrayDeque<>();
        Deque<Node> nodes = new ArrayDeque<>();
        stack.push(0);
        int next = 0;
        while (true) {
            int deed = decide(stack.peek(), next < input.size() ? input.get(next).terminal() : 0);
            if (deed == 1000) {
                break;
            }
            if (deed == 0) {
                fault = next;
                throw new IllegalArgumentException();
            }
            if (made.size() == 150) {
                throw new UnsupportedOperationException();
            }
            Node node = new Node();
            node.number = made.size();
            made.add(node);
            if (deed > 0) {
                Token token = input.get(next);
                node.symbol = token.terminal();
                node.rule = -1;
                node.attributes[0] = token.value();
                node.attributes[1] = next;
                next++;
                stack.push(deed);
            } else {
                node.rule = -1 - deed;
                node.symbol = rules.get(node.rule).left();
                for (int k = rightOf(node.rule).size(); k >= 1; k--) {
                    stack.pop();
                    Node child = nodes.pop();
                    child.parent = node;
                    child.childNumber = k;
                    node.children.add(0, child);
                }
                stack.push(goes.get(stack.peek()).get(node.symbol));
            }
            nodes.push(node);
        }
        tree = made;
        Map<List<Integer>, Long> known = new HashMap<>();
        for (Node node : tree) {
            for (int a = 0; a <= 2; a++) {
                node.attributes[a] = work(node, a, known);
            }
        }
        return tree.size();
    }

    private long work(Node node, int a, Map<List<Integer>, Long> known) {
        if (node.rule < 0) {
            return node.attributes[a];
        }
        Node context = a == 2 ? node.parent : node;
        int code = a == 2 ? 10 * node.childNumber + 2 : a;
        Equation e = context == null ? null : equations.get(List.of(context.rule, code));
        if (e == null) {
            return 0;
        }
        if (e.operation() == 0) {
            return e.x();
        }
        List<Integer> key = List.of(node.number, a);
        Long before = known.get(key);
        if (before != null) {
            return before;
        }
        long x = workCode(context, e.x(), known);
        long y = e.operation() == 1 ? 0 : workCode(context, e.y(), known);
        long result = switch (e.operation()) {
            case 1 -> x;
            case 2 -> x + y;
            case 3 -> x - y;
            case 4 -> x * y;
            case 5 -> x < y ? 1 : 0;
            case 6 -> x > y ? x : y;
            default -> y == 0 ? 0 : x;
        };
        known.put(key, result);
        return result;
    }

    private long workCode(Node context, int code, Map<List<Integer>, Long> known) {
        return work(code < 10 ? context : context.children.get(code / 10 - 1), code % 10, known);
    }

    int fault() {
        return fault;
    }

    private Node needNode(int node) {
        if (node < 0 || node >= tree.size()) {
            throw new NoSuchElementException();
        }
        return tree.get(node);
    }

    int node(int number, int what) {
        Node node = needNode(number);
        switch (what) {
            case 0:
                return node.symbol;
            case 1:
                return node.rule;
            case 2:
                return node.parent == null ? -1 : node.parent.number;
            case 3:
                return node.childNumber;
            default:
                throw new IllegalArgumentException();
        }
    }

    long attribute(int number, int a) {
        Node node = needNode(number);
        if (a < 0 || a > 2) {
            throw new IllegalArgumentException();
        }
        return node.attributes[a];
    }

    int clear() {
        int before = rules.size();
        rules.clear();
        equations.clear();
        levels.clear();
        tokens.clear();
        built = false;
        return before;
    }

    int count(int what) {
        switch (what) {
            case 0:
                return rules.size();
            case 1:
                return equations.size();
            case 2:
                return built ? states.size() : 0;
            case 3:
                return built ? conflicts() : 0;
            case 4:
                return built && circular ? 1 : 0;
            case 5:
                return tree.size();
            case 6:
                return tokens.size();
            default:
                throw new IllegalArgumentException();
        }
    }

    /** A sequence of terminals that the start derives, or null if none is found by this choice of rules. */
    List<Integer> sentence(java.util.Random random) {
        if (rules.isEmpty()) {
            return null;
        }
        List<Integer> sequence = new ArrayList<>(List.of(rules.get(0).left()));
        for (int step = 0; step < 200; step++) {
            int at = 0;
            while (at < sequence.size() && terminal(sequence.get(at))) {
                at++;
            }
            if (at == sequence.size()) {
                return sequence.size() > 40 ? null : sequence;
            }
            int symbol = sequence.remove(at);
            List<Rule> fitting = new ArrayList<>();
            for (Rule rule : rules) {
                if (rule.left() == symbol) {
                    fitting.add(rule);
                }
            }
            if (fitting.isEmpty()) {
                return null;
            }
            Rule chosen = fitting.get(random.nextInt(fitting.size()));
            for (int tries = 0; tries < 4 && sequence.size() > 12; tries++) {
                Rule other = fitting.get(random.nextInt(fitting.size()));
                chosen = other.right().size() < chosen.right().size() ? other : chosen;
            }
            sequence.addAll(at, chosen.right());
        }
        return null;
    }
}
