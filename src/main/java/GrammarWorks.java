import java.util.NoSuchElementException;

/**
 * A maker of parsers with attributes: from rules it builds the LALR(1) table, with levels against
 * conflicts, tests whether attributes could go round in a ring, then reads tokens into a tree, and
 * works out what its attributes are.
 */
public final class GrammarWorks {
    private static final int MOST_RULES = 14;
    private static final int MOST_STATES = 50;
    private static final int MOST_TOKENS = 40;
    private static final int MOST_NODES = 150;
    private static final int HIGHEST_LEVEL = 9;
    private static final int HIGHEST_OPERATION = 7;

    private static final int END = 0;
    private static final int HIGHEST_TERMINAL = 6;
    private static final int LOWEST_NONTERMINAL = 8;
    private static final int HIGHEST_NONTERMINAL = 13;
    private static final int SYMBOLS = HIGHEST_NONTERMINAL + 1;

    private static final int KIND_LEFT = 0;
    private static final int KIND_RIGHT = 1;
    private static final int KIND_NONE = 2;

    /** The goal stands as one more rule behind all others, so that its items need no care of their own. */
    private static final int GOAL = MOST_RULES;
    private static final int WIDTH = 4;
    private static final int DOTS = WIDTH + 1;
    private static final int ITEMS = (GOAL + 1) * DOTS;

    /** The bit of a set of lookaheads that tells an item without any from an item that is not there. */
    private static final int PRESENT = 128;
    private static final int ALL_LOOKAHEADS = 127;
    /** In FIRST the bit 0 is free, as the end begins nothing: there it stands for the empty sequence. */
    private static final int EMPTY = 1;

    private static final int NOTHING = 0;
    private static final int ACCEPT = 1000;
    private static final int CONFLICT = 1001;

    /** Attributes of a symbol; attribute a of symbol k of a rule (0: the left side) is its place 3 * k + a. */
    private static final int ATTRIBUTES = 3;
    private static final int GOES_DOWN = 2;
    private static final int PLACES = (WIDTH + 1) * ATTRIBUTES;

    private static final int SYMBOL = 0;
    private static final int RULE = 1;
    private static final int PARENT = 2;
    private static final int CHILD_NUMBER = 3;
    private static final int NODE_FACTS = 4;

    private static final int PARSED = -1;
    private static final int OVERFULL = -2;

    /** Far above what any loop that runs until nothing changes can need. */
    private static final int MANY = 1000000;

    private final Grammar grammar;
    private final States states;
    private final Rings rings;
    private final Parser parser;
    private final Evaluator evaluator;
    private Tree tree;
    /** The next parse writes here, so that the tree before stays if that parse fails. */
    private Tree spare;
    private boolean built;
    private int lastFault;

    public GrammarWorks() {
        grammar = new Grammar();
        states = new States(grammar);
        rings = new Rings(grammar);
        parser = new Parser(grammar, states);
        evaluator = new Evaluator(grammar);
        tree = new Tree();
        spare = new Tree();
        built = false;
        lastFault = -1;
    }

    public int rule(int left, int a, int b, int c, int d)
            throws IllegalArgumentException, IllegalStateException {
        if (!isNonterminal(left)) {
            throw new IllegalArgumentException("the left side is no nonterminal");
        }
        boolean fits = (a == 0 || isSymbol(a)) && mayFollow(a, b) && mayFollow(b, c) && mayFollow(c, d);
        if (!fits) {
            throw new IllegalArgumentException("no right side");
        }
        if (grammar.size() >= MOST_RULES) {
            throw new IllegalStateException("14 rules are there");
        }
        built = false;
        return grammar.addRule(left, a, b, c, d);
    }

    public int level(int terminal, int level, int kind) throws IllegalArgumentException {
        if (!isTerminal(terminal)) {
            throw new IllegalArgumentException("no terminal");
        }
        if (level < 0 || level > HIGHEST_LEVEL) {
            throw new IllegalArgumentException("no level");
        }
        if (kind < KIND_LEFT || kind > KIND_NONE) {
            throw new IllegalArgumentException("no kind");
        }
        built = false;
        int before = grammar.levelOf(terminal);
        grammar.setLevel(terminal, level, kind);
        return before;
    }

    public int equation(int rule, int code, int operation, int x, int y)
            throws NoSuchElementException, IllegalArgumentException {
        if (!grammar.hasRule(rule)) {
            throw new NoSuchElementException("no such rule");
        }
        if (!grammar.isDefinable(rule, code)) {
            throw new IllegalArgumentException("no equation can be for this code");
        }
        if (operation < 0 || operation > HIGHEST_OPERATION) {
            throw new IllegalArgumentException("no such operation");
        }
        if (operation >= 1 && grammar.placeOf(rule, x) < 0) {
            throw new IllegalArgumentException("x is no code of the rule");
        }
        if (operation >= 2 && grammar.placeOf(rule, y) < 0) {
            throw new IllegalArgumentException("y is no code of the rule");
        }
        built = false;
        return grammar.addEquation(rule, code, operation, x, y) ? 1 : 0;
    }

    public int build() throws IllegalStateException, UnsupportedOperationException {
        built = false;
        if (grammar.size() == 0) {
            throw new IllegalStateException("no rule");
        }
        if (!states.findAll()) {
            throw new UnsupportedOperationException("more than 50 states");
        }
        states.spreadLookaheads();
        states.decideAll();
        rings.search();
        built = true;
        return states.size();
    }

    public int first(int symbol) throws IllegalArgumentException {
        if (!isSymbol(symbol)) {
            throw new IllegalArgumentException("no symbol");
        }
        return grammar.firstOf(symbol);
    }

    public int action(int state, int t) throws IllegalStateException, IllegalArgumentException {
        if (!built) {
            throw new IllegalStateException("nothing is built");
        }
        if (!states.hasState(state)) {
            throw new IllegalArgumentException("no such state");
        }
        if (t != END && !isTerminal(t)) {
            throw new IllegalArgumentException("neither a terminal nor the end");
        }
        return states.deedAt(state, t);
    }

    public int go(int state, int nonterminal) throws IllegalStateException, IllegalArgumentException {
        if (!built) {
            throw new IllegalStateException("nothing is built");
        }
        if (!states.hasState(state)) {
            throw new IllegalArgumentException("no such state");
        }
        if (!isNonterminal(nonterminal)) {
            throw new IllegalArgumentException("no nonterminal");
        }
        return states.target(state, nonterminal);
    }

    public int lookaheads(int state, int rule)
            throws IllegalStateException, IllegalArgumentException, NoSuchElementException {
        if (!built) {
            throw new IllegalStateException("nothing is built");
        }
        if (!states.hasState(state)) {
            throw new IllegalArgumentException("no such state");
        }
        if (!grammar.hasRule(rule)) {
            throw new NoSuchElementException("no such rule");
        }
        if (!states.isEnding(state, rule)) {
            throw new NoSuchElementException("the item is not in the state");
        }
        return states.lookaheadsAtEnd(state, rule);
    }

    public int token(int terminal, int value) throws IllegalArgumentException, IllegalStateException {
        if (!isTerminal(terminal)) {
            throw new IllegalArgumentException("no terminal");
        }
        if (parser.size() >= MOST_TOKENS) {
            throw new IllegalStateException("40 tokens are there");
        }
        return parser.addToken(terminal, value);
    }

    public int parse()
            throws IllegalStateException, UnsupportedOperationException, IllegalArgumentException {
        if (!built) {
            throw new IllegalStateException("nothing is built");
        }
        if (states.conflicts() > 0) {
            throw new IllegalStateException("there are conflicts");
        }
        if (rings.areFound()) {
            throw new IllegalStateException("the grammar is circular");
        }
        int outcome = parser.run(spare);
        parser.dropTokens();
        lastFault = outcome >= 0 ? outcome : -1;
        if (outcome == OVERFULL) {
            throw new UnsupportedOperationException("more than 150 nodes");
        }
        if (outcome != PARSED) {
            throw new IllegalArgumentException("a fault");
        }
        evaluator.evaluate(spare);
        Tree before = tree;
        tree = spare;
        spare = before;
        return tree.size();
    }

    public int fault() {
        return lastFault;
    }

    public int node(int node, int what) throws NoSuchElementException, IllegalArgumentException {
        if (!tree.hasNode(node)) {
            throw new NoSuchElementException("no such node");
        }
        if (what < SYMBOL || what > CHILD_NUMBER) {
            throw new IllegalArgumentException("nothing is told by this number");
        }
        return tree.fact(node, what);
    }

    public long attribute(int node, int attribute) throws NoSuchElementException, IllegalArgumentException {
        if (!tree.hasNode(node)) {
            throw new NoSuchElementException("no such node");
        }
        if (attribute < 0 || attribute >= ATTRIBUTES) {
            throw new IllegalArgumentException("no attribute");
        }
        return tree.value(node * ATTRIBUTES + attribute);
    }

    public int clear() {
        int rules = grammar.size();
        grammar.wipe();
        parser.dropTokens();
        built = false;
        return rules;
    }

    public int count(int what) throws IllegalArgumentException {
        switch (what) {
            case 0:
                return grammar.size();
            case 1:
                return grammar.equations();
            case 2:
                return built ? states.size() : 0;
            case 3:
                return built ? states.conflicts() : 0;
            case 4:
                return built && rings.areFound() ? 1 : 0;
            case 5:
                return tree.size();
            case 6:
                return parser.size();
            default:
                throw new IllegalArgumentException("nothing is counted by this number");
        }
    }

    private static boolean isTerminal(int symbol) {
        return symbol >= 1 && symbol <= HIGHEST_TERMINAL;
    }

    private static boolean isNonterminal(int symbol) {
        return symbol >= LOWEST_NONTERMINAL && symbol <= HIGHEST_NONTERMINAL;
    }

    private static boolean isSymbol(int symbol) {
        return isTerminal(symbol) || isNonterminal(symbol);
    }

    private static boolean mayFollow(int before, int symbol) {
        return symbol == 0 || (before != 0 && isSymbol(symbol));
    }

    /** Ints that have no cells beyond their ends: there they answer 0 and take nothing. */
    private static final class Row {
        private final int[] cells;

        Row(int size) {
            cells = new int[Math.max(0, size)];
        }

        int get(int at) {
            return at >= 0 && at < cells.length ? cells[at] : 0;
        }

        void set(int at, int value) {
            if (at >= 0 && at < cells.length) {
                cells[at] = value;
            }
        }

        void wipe() {
            for (int at = 0; at < cells.length; at++) {
                cells[at] = 0;
            }
        }
    }

    /** Longs that have no cells beyond their ends: there they answer 0 and take nothing. */
    private static final class LongRow {
        private final long[] cells;

        LongRow(int size) {
            cells = new long[Math.max(0, size)];
        }

        long get(int at) {
            return at >= 0 && at < cells.length ? cells[at] : 0L;
        }

        void set(int at, long value) {
            if (at >= 0 && at < cells.length) {
                cells[at] = value;
            }
        }

        void wipe() {
            for (int at = 0; at < cells.length; at++) {
                cells[at] = 0L;
            }
        }
    }

    /** Ints in rows and columns that have no cells beyond their bounds: there they answer 0 and take nothing. */
    private static final class Grid {
        private final int rows;
        private final int columns;
        private final int[] cells;

        Grid(int rows, int columns) {
            this.rows = rows;
            this.columns = columns;
            this.cells = new int[Math.max(0, rows * columns)];
        }

        int get(int row, int column) {
            int at = index(row, column);
            return at >= 0 && at < cells.length ? cells[at] : 0;
        }

        void set(int row, int column, int value) {
            int at = index(row, column);
            if (at >= 0 && at < cells.length) {
                cells[at] = value;
            }
        }

        void wipe() {
            for (int at = 0; at < cells.length; at++) {
                cells[at] = 0;
            }
        }

        private int index(int row, int column) {
            boolean inside = row >= 0 && row < rows && column >= 0 && column < columns;
            return inside ? row * columns + column : -1;
        }
    }

    /** What is given: rules, levels, kinds and equations; and FIRST, which is kept up to date with the rules. */
    private static final class Grammar {
        private final Grid sides;
        private final Row levels;
        private final Row kinds;
        private final Row firsts;
        /** By rule and place: the operation and 1, or 0 where no equation is. */
        private final Grid operations;
        /** By rule and place: the number for operation 0, else the place of the rule that x means. */
        private final Grid xs;
        private final Grid ys;
        private int rules;
        private int equations;

        Grammar() {
            sides = new Grid(GOAL + 1, WIDTH + 1);
            levels = new Row(HIGHEST_TERMINAL + 1);
            kinds = new Row(HIGHEST_TERMINAL + 1);
            firsts = new Row(SYMBOLS);
            operations = new Grid(MOST_RULES, PLACES);
            xs = new Grid(MOST_RULES, PLACES);
            ys = new Grid(MOST_RULES, PLACES);
            rules = 0;
            equations = 0;
        }

        void wipe() {
            sides.wipe();
            levels.wipe();
            kinds.wipe();
            firsts.wipe();
            operations.wipe();
            rules = 0;
            equations = 0;
        }

        int size() {
            return rules;
        }

        int equations() {
            return equations;
        }

        boolean hasRule(int rule) {
            return rule >= 0 && rule < rules;
        }

        int addRule(int left, int a, int b, int c, int d) {
            int rule = rules;
            sides.set(rule, 0, left);
            sides.set(rule, 1, a);
            sides.set(rule, 2, b);
            sides.set(rule, 3, c);
            sides.set(rule, 4, d);
            if (rule == 0) {
                sides.set(GOAL, 1, left);
            }
            rules++;
            updateFirsts();
            return rule;
        }

        int leftOf(int rule) {
            return sides.get(rule, 0);
        }

        /** Symbol k of the right side, from 1 on; 0 behind the last. */
        int symbolAt(int rule, int k) {
            return sides.get(rule, k);
        }

        int lengthOf(int rule) {
            int length = 0;
            while (length < WIDTH && sides.get(rule, length + 1) != 0) {
                length++;
            }
            return length;
        }

        int levelOf(int terminal) {
            return levels.get(terminal);
        }

        int kindOf(int terminal) {
            return kinds.get(terminal);
        }

        void setLevel(int terminal, int level, int kind) {
            levels.set(terminal, level);
            kinds.set(terminal, kind);
        }

        /** The level of the rule's last terminal, 0 if it has none. */
        int levelOfRule(int rule) {
            int level = 0;
            for (int k = 1; k <= WIDTH; k++) {
                if (isTerminal(symbolAt(rule, k))) {
                    level = levelOf(symbolAt(rule, k));
                }
            }
            return level;
        }

        int firstOf(int symbol) {
            return isTerminal(symbol) ? 1 << symbol : firsts.get(symbol);
        }

        /** FIRST of the symbols of the right side from symbol k on, with EMPTY if they derive the empty sequence. */
        int firstFrom(int rule, int k) {
            int sum = EMPTY;
            for (int at = k; at <= WIDTH && (sum & EMPTY) != 0; at++) {
                int symbol = symbolAt(rule, at);
                if (symbol != 0) {
                    sum = (sum & ~EMPTY) | firstOf(symbol);
                }
            }
            return sum;
        }

        private void updateFirsts() {
            boolean grown = true;
            for (int round = 0; round < MANY && grown; round++) {
                grown = false;
                for (int rule = 0; rule < rules; rule++) {
                    int left = leftOf(rule);
                    int sum = firsts.get(left) | firstFrom(rule, 1);
                    if (sum != firsts.get(left)) {
                        firsts.set(left, sum);
                        grown = true;
                    }
                }
            }
        }

        /** The place of a code in a rule, or -1 if it is no attribute of a symbol there. */
        int placeOf(int rule, int code) {
            if (code < 0) {
                return -1;
            }
            int k = code / 10;
            int attribute = code % 10;
            if (k > lengthOf(rule) || attribute >= ATTRIBUTES) {
                return -1;
            }
            if (k > 0 && attribute == GOES_DOWN && isTerminal(symbolAt(rule, k))) {
                return -1;
            }
            return k * ATTRIBUTES + attribute;
        }

        /** An equation says what goes up from the rule's left side, or down to its right side. */
        boolean isDefinable(int rule, int code) {
            boolean onLeft = code < 10;
            boolean goesDown = code % 10 == GOES_DOWN;
            return placeOf(rule, code) >= 0 && onLeft != goesDown;
        }

        /** True if there was no equation for the code. */
        boolean addEquation(int rule, int code, int operation, int x, int y) {
            int place = placeOf(rule, code);
            boolean isNew = operationAt(rule, place) < 0;
            if (isNew) {
                equations++;
            }
            operations.set(rule, place, operation + 1);
            xs.set(rule, place, operation == 0 ? x : placeOf(rule, x));
            ys.set(rule, place, operation < 2 ? 0 : placeOf(rule, y));
            return isNew;
        }

        /** The operation of the equation for a place, -1 if there is none. */
        int operationAt(int rule, int place) {
            return operations.get(rule, place) - 1;
        }

        int xAt(int rule, int place) {
            return xs.get(rule, place);
        }

        int yAt(int rule, int place) {
            return ys.get(rule, place);
        }
    }

    /** The states, their lookaheads, and what is to be done in them. The item of a rule with dot d is rule * DOTS + d. */
    private static final class States {
        private final Grammar grammar;
        /**
         * By state the items that have something before their dot, a bit each. They tell all states but 0
         * apart, as the others of a state follow from them; state 0 alone has none.
         */
        private final LongRow kernels;
        /** By symbol the kernel of the state to which the state at hand goes. */
        private final LongRow nextKernels;
        /** By state and item: PRESENT and the item's lookaheads, or 0 if the state does not have it. */
        private final Grid items;
        private final Grid targets;
        private final Grid deeds;
        private int size;
        private int conflicts;

        States(Grammar grammar) {
            this.grammar = grammar;
            kernels = new LongRow(MOST_STATES);
            nextKernels = new LongRow(SYMBOLS);
            items = new Grid(MOST_STATES, ITEMS);
            targets = new Grid(MOST_STATES, SYMBOLS);
            deeds = new Grid(MOST_STATES, HIGHEST_TERMINAL + 1);
            size = 0;
            conflicts = 0;
        }

        int size() {
            return size;
        }

        int conflicts() {
            return conflicts;
        }

        boolean hasState(int state) {
            return state >= 0 && state < size;
        }

        /** The state to which one goes by a symbol, 0 if one does not: none goes to state 0. */
        int target(int state, int symbol) {
            return targets.get(state, symbol);
        }

        int deedAt(int state, int t) {
            return deeds.get(state, t);
        }

        boolean isEnding(int state, int rule) {
            return items.get(state, endOf(rule)) != 0;
        }

        int lookaheadsAtEnd(int state, int rule) {
            return items.get(state, endOf(rule)) & ALL_LOOKAHEADS;
        }

        private int endOf(int rule) {
            return rule * DOTS + grammar.lengthOf(rule);
        }

        private int symbolBehindDot(int item) {
            return grammar.symbolAt(item / DOTS, item % DOTS + 1);
        }

        private static long kernelBit(int item) {
            int dot = item % DOTS;
            return dot == 0 ? 0L : 1L << (item / DOTS * WIDTH + dot - 1);
        }

        /** False if there are more states than there may be. */
        boolean findAll() {
            size = 0;
            enter(0L);
            for (int state = 0; state < size && state < MOST_STATES; state++) {
                close(state);
                gatherNextKernels(state);
                for (int symbol = 1; symbol < SYMBOLS; symbol++) {
                    long kernel = nextKernels.get(symbol);
                    int next = kernel == 0L ? 0 : stateWith(kernel);
                    if (next >= MOST_STATES) {
                        return false;
                    }
                    targets.set(state, symbol, next);
                }
            }
            return true;
        }

        private void gatherNextKernels(int state) {
            nextKernels.wipe();
            for (int item = 0; item < ITEMS; item++) {
                if (items.get(state, item) != 0) {
                    int symbol = symbolBehindDot(item);
                    if (symbol != 0) {
                        nextKernels.set(symbol, nextKernels.get(symbol) | kernelBit(item + 1));
                    }
                }
            }
        }

        /** The number of the state, which is entered if it is new; MOST_STATES if there is no room for it. */
        private int stateWith(long kernel) {
            for (int state = 1; state < size; state++) {
                if (kernels.get(state) == kernel) {
                    return state;
                }
            }
            int state = size;
            if (state < MOST_STATES) {
                enter(kernel);
            }
            return state;
        }

        /** Puts a state with its kernel alone behind the others. */
        private void enter(long kernel) {
            int state = size;
            kernels.set(state, kernel);
            for (int item = 0; item < ITEMS; item++) {
                items.set(state, item, (kernel & kernelBit(item)) != 0L ? PRESENT : 0);
            }
            if (state == 0) {
                items.set(state, GOAL * DOTS, PRESENT);
            }
            size++;
        }

        /** Puts into a state what its kernel brings with it. */
        private void close(int state) {
            boolean grown = true;
            for (int round = 0; round < MANY && grown; round++) {
                grown = false;
                for (int item = 0; item < ITEMS; item++) {
                    boolean present = items.get(state, item) != 0;
                    if (present && giveToRulesOf(symbolBehindDot(item), state, PRESENT)) {
                        grown = true;
                    }
                }
            }
        }

        /** Gives marks to the items of a symbol's rules with the dot at the beginning; true if one was new. */
        private boolean giveToRulesOf(int symbol, int state, int marks) {
            boolean grown = false;
            for (int rule = 0; rule < grammar.size(); rule++) {
                if (grammar.leftOf(rule) == symbol && give(state, rule * DOTS, marks)) {
                    grown = true;
                }
            }
            return grown;
        }

        private boolean give(int state, int item, int marks) {
            int before = items.get(state, item);
            items.set(state, item, before | marks);
            return (before | marks) != before;
        }

        void spreadLookaheads() {
            give(0, GOAL * DOTS, 1 << END);
            boolean grown = true;
            for (int round = 0; round < MANY && grown; round++) {
                grown = false;
                for (int state = 0; state < size; state++) {
                    for (int item = 0; item < ITEMS; item++) {
                        if (items.get(state, item) != 0 && spreadFrom(state, item)) {
                            grown = true;
                        }
                    }
                }
            }
        }

        private boolean spreadFrom(int state, int item) {
            int symbol = symbolBehindDot(item);
            if (symbol == 0) {
                return false;
            }
            int own = items.get(state, item) & ALL_LOOKAHEADS;
            boolean grown = give(target(state, symbol), item + 1, own);
            if (isNonterminal(symbol)) {
                int behind = grammar.firstFrom(item / DOTS, item % DOTS + 2);
                int given = (behind & EMPTY) != 0 ? (behind & ~EMPTY) | own : behind;
                if (giveToRulesOf(symbol, state, given)) {
                    grown = true;
                }
            }
            return grown;
        }

        void decideAll() {
            conflicts = 0;
            for (int state = 0; state < size; state++) {
                for (int t = END; t <= HIGHEST_TERMINAL; t++) {
                    int deed = decide(state, t);
                    deeds.set(state, t, deed);
                    if (deed == CONFLICT) {
                        conflicts++;
                    }
                }
            }
        }

        private int decide(int state, int t) {
            int shift = target(state, t);
            int reduces = 0;
            int rule = 0;
            for (int r = 0; r <= GOAL; r++) {
                if ((lookaheadsAtEnd(state, r) >> t & 1) != 0) {
                    reduces++;
                    rule = r;
                }
            }
            if (reduces == 0) {
                return shift == 0 ? NOTHING : shift;
            }
            if (reduces > 1) {
                return CONFLICT;
            }
            int reduce = rule == GOAL ? ACCEPT : -1 - rule;
            return shift == 0 ? reduce : weigh(rule, t, shift, reduce);
        }

        /** What the levels leave of a shift and one rule. */
        private int weigh(int rule, int t, int shift, int reduce) {
            int ruleLevel = grammar.levelOfRule(rule);
            int level = grammar.levelOf(t);
            if (ruleLevel == 0 || level == 0) {
                return CONFLICT;
            }
            if (ruleLevel != level) {
                return ruleLevel > level ? reduce : shift;
            }
            if (grammar.kindOf(t) == KIND_LEFT) {
                return reduce;
            }
            return grammar.kindOf(t) == KIND_RIGHT ? shift : NOTHING;
        }
    }

    /**
     * Tests whether a tree can have an attribute that hangs on itself. A ring, or a way from one attribute to
     * another, goes through attribute 2 of a node once at most, so it needs 0 or 1 of that node to hang on it,
     * never both; and the trees of a rule's symbols can be chosen each for itself. So it is enough to know for
     * each symbol which of 0 and 1 hangs on 2 in some tree of it, be it another tree for each.
     */
    private static final class Rings {
        private static final int HAS_TREE = 4;

        private final Grammar grammar;
        /** By symbol HAS_TREE if there is one, and bits 0 and 1 for the attributes that hang on 2 in some tree. */
        private final Row trees;
        /** By place of the rule at hand a bit for each place on which it hangs. */
        private final Row hangs;
        private boolean found;

        Rings(Grammar grammar) {
            this.grammar = grammar;
            trees = new Row(SYMBOLS);
            hangs = new Row(PLACES);
            found = false;
        }

        boolean areFound() {
            return found;
        }

        void search() {
            found = false;
            trees.wipe();
            for (int terminal = 1; terminal <= HIGHEST_TERMINAL; terminal++) {
                trees.set(terminal, HAS_TREE);
            }
            boolean grown = true;
            for (int round = 0; round < MANY && grown; round++) {
                grown = false;
                for (int rule = 0; rule < grammar.size(); rule++) {
                    if (makesTrees(rule) && growBy(rule)) {
                        grown = true;
                    }
                }
            }
        }

        private boolean makesTrees(int rule) {
            for (int k = 1; k <= grammar.lengthOf(rule); k++) {
                if (trees.get(grammar.symbolAt(rule, k)) == 0) {
                    return false;
                }
            }
            return true;
        }

        /** Looks at the trees with a rule at the root; true if they tell something new of its symbol. */
        private boolean growBy(int rule) {
            readEquations(rule);
            readChildren(rule);
            for (int through = 0; through < PLACES; through++) {
                passOn(through);
            }
            for (int place = 0; place < PLACES; place++) {
                if (hangsOn(place, place)) {
                    found = true;
                }
            }
            int left = grammar.leftOf(rule);
            int before = trees.get(left);
            int sum = before | HAS_TREE | (hangsOn(0, GOES_DOWN) ? 1 : 0) | (hangsOn(1, GOES_DOWN) ? 2 : 0);
            trees.set(left, sum);
            return sum != before;
        }

        private boolean hangsOn(int place, int other) {
            return (hangs.get(place) >> other & 1) != 0;
        }

        private void readEquations(int rule) {
            for (int place = 0; place < PLACES; place++) {
                int operation = grammar.operationAt(rule, place);
                int x = operation >= 1 ? 1 << grammar.xAt(rule, place) : 0;
                int y = operation >= 2 ? 1 << grammar.yAt(rule, place) : 0;
                hangs.set(place, x | y);
            }
        }

        private void readChildren(int rule) {
            for (int k = 1; k <= grammar.lengthOf(rule); k++) {
                int known = trees.get(grammar.symbolAt(rule, k));
                int place = k * ATTRIBUTES;
                int down = 1 << (place + GOES_DOWN);
                hangs.set(place, (known & 1) != 0 ? down : 0);
                hangs.set(place + 1, (known & 2) != 0 ? down : 0);
            }
        }

        /** Lets all that hang on a place hang on what it hangs on. */
        private void passOn(int through) {
            for (int place = 0; place < PLACES; place++) {
                if (hangsOn(place, through)) {
                    hangs.set(place, hangs.get(place) | hangs.get(through));
                }
            }
        }
    }

    /** Nodes with what is told of them, their children and attributes. Attribute a of node n is slot 3 * n + a. */
    private static final class Tree {
        /** By node its symbol, rule, parent and number as a child, then its children. */
        private final Grid facts;
        private final LongRow values;
        private int size;

        Tree() {
            facts = new Grid(MOST_NODES, NODE_FACTS + WIDTH);
            values = new LongRow(MOST_NODES * ATTRIBUTES);
            size = 0;
        }

        void begin() {
            size = 0;
        }

        int size() {
            return size;
        }

        boolean hasNode(int node) {
            return node >= 0 && node < size;
        }

        int fact(int node, int what) {
            return facts.get(node, what);
        }

        boolean isToken(int node) {
            return fact(node, RULE) < 0;
        }

        int child(int node, int k) {
            return facts.get(node, NODE_FACTS + k - 1);
        }

        long value(int slot) {
            return values.get(slot);
        }

        void setValue(int slot, long value) {
            values.set(slot, value);
        }

        int addTokenNode(int terminal, int value, int number) {
            int node = addRuleNode(terminal, -1);
            setValue(node * ATTRIBUTES, value);
            setValue(node * ATTRIBUTES + 1, number);
            setValue(node * ATTRIBUTES + GOES_DOWN, 0L);
            return node;
        }

        int addRuleNode(int symbol, int rule) {
            int node = size;
            facts.set(node, SYMBOL, symbol);
            facts.set(node, RULE, rule);
            facts.set(node, PARENT, -1);
            facts.set(node, CHILD_NUMBER, 0);
            size++;
            return node;
        }

        void setChild(int parent, int k, int node) {
            facts.set(parent, NODE_FACTS + k - 1, node);
            facts.set(node, PARENT, parent);
            facts.set(node, CHILD_NUMBER, k);
        }
    }

    /** The tokens, and the stack with which they are parsed. */
    private static final class Parser {
        private final Grammar grammar;
        private final States states;
        private final Row terminals;
        private final Row values;
        private final Row stackStates;
        private final Row stackNodes;
        private int tokens;
        private int height;

        Parser(Grammar grammar, States states) {
            this.grammar = grammar;
            this.states = states;
            terminals = new Row(MOST_TOKENS);
            values = new Row(MOST_TOKENS);
            stackStates = new Row(MOST_NODES + 1);
            stackNodes = new Row(MOST_NODES + 1);
            tokens = 0;
            height = 0;
        }

        int size() {
            return tokens;
        }

        int addToken(int terminal, int value) {
            terminals.set(tokens, terminal);
            values.set(tokens, value);
            tokens++;
            return tokens;
        }

        void dropTokens() {
            tokens = 0;
        }

        /** Parses into a tree; answers PARSED, OVERFULL or the fault. */
        int run(Tree tree) {
            tree.begin();
            height = 0;
            push(0, -1);
            int next = 0;
            for (int made = 0; made <= MOST_NODES; made++) {
                int t = next < tokens ? terminals.get(next) : END;
                int deed = states.deedAt(topState(), t);
                if (deed == ACCEPT) {
                    return PARSED;
                }
                if (deed == NOTHING) {
                    return next;
                }
                if (made == MOST_NODES) {
                    return OVERFULL;
                }
                if (deed > 0) {
                    push(deed, tree.addTokenNode(t, values.get(next), next));
                    next++;
                } else {
                    reduce(tree, -1 - deed);
                }
            }
            return OVERFULL;
        }

        private int topState() {
            return stackStates.get(height - 1);
        }

        private void push(int state, int node) {
            stackStates.set(height, state);
            stackNodes.set(height, node);
            height++;
        }

        private void reduce(Tree tree, int rule) {
            int left = grammar.leftOf(rule);
            int length = grammar.lengthOf(rule);
            int node = tree.addRuleNode(left, rule);
            height -= length;
            for (int k = 1; k <= length; k++) {
                tree.setChild(node, k, stackNodes.get(height + k - 1));
            }
            push(states.target(topState(), left), node);
        }
    }

    /** Works out the attributes of a tree, each behind those by which its equation says what it is. */
    private static final class Evaluator {
        private final Grammar grammar;
        private final Row known;
        /** Slots to work out, each for the sake of the one below it. */
        private final Row waiting;

        Evaluator(Grammar grammar) {
            this.grammar = grammar;
            known = new Row(MOST_NODES * ATTRIBUTES);
            waiting = new Row(MOST_NODES * ATTRIBUTES);
        }

        void evaluate(Tree tree) {
            int slots = tree.size() * ATTRIBUTES;
            for (int slot = 0; slot < slots; slot++) {
                known.set(slot, tree.isToken(slot / ATTRIBUTES) ? 1 : 0);
            }
            for (int slot = 0; slot < slots; slot++) {
                if (known.get(slot) == 0) {
                    settle(tree, slot);
                }
            }
        }

        private void settle(Tree tree, int slot) {
            waiting.set(0, slot);
            int height = 1;
            for (int step = 0; step < MANY && height > 0; step++) {
                int top = waiting.get(height - 1);
                int missing = missingFor(tree, top);
                if (missing >= 0) {
                    waiting.set(height, missing);
                    height++;
                } else {
                    tree.setValue(top, workOut(tree, top));
                    known.set(top, 1);
                    height--;
                }
            }
        }

        /** The node in whose rule a slot's equation stands, -1 for what goes down to the root. */
        private static int contextOf(Tree tree, int slot) {
            int node = slot / ATTRIBUTES;
            return slot % ATTRIBUTES == GOES_DOWN ? tree.fact(node, PARENT) : node;
        }

        private static int placeOf(Tree tree, int slot) {
            int attribute = slot % ATTRIBUTES;
            int k = attribute == GOES_DOWN ? tree.fact(slot / ATTRIBUTES, CHILD_NUMBER) : 0;
            return k * ATTRIBUTES + attribute;
        }

        private static int ruleOf(Tree tree, int context) {
            return context < 0 ? -1 : tree.fact(context, RULE);
        }

        /** The slot that a place of a node's rule means. */
        private static int slotOf(Tree tree, int context, int place) {
            int k = place / ATTRIBUTES;
            int node = k == 0 ? context : tree.child(context, k);
            return node * ATTRIBUTES + place % ATTRIBUTES;
        }

        /** A slot that has to be known before this one, but is not; -1 if there is none. */
        private int missingFor(Tree tree, int slot) {
            int context = contextOf(tree, slot);
            int rule = ruleOf(tree, context);
            int place = placeOf(tree, slot);
            int operation = grammar.operationAt(rule, place);
            if (operation >= 1) {
                int x = slotOf(tree, context, grammar.xAt(rule, place));
                if (known.get(x) == 0) {
                    return x;
                }
            }
            if (operation >= 2) {
                int y = slotOf(tree, context, grammar.yAt(rule, place));
                if (known.get(y) == 0) {
                    return y;
                }
            }
            return -1;
        }

        private long workOut(Tree tree, int slot) {
            int context = contextOf(tree, slot);
            int rule = ruleOf(tree, context);
            int place = placeOf(tree, slot);
            int operation = grammar.operationAt(rule, place);
            if (operation < 0) {
                return 0L;
            }
            if (operation == 0) {
                return grammar.xAt(rule, place);
            }
            long x = tree.value(slotOf(tree, context, grammar.xAt(rule, place)));
            long y = tree.value(slotOf(tree, context, grammar.yAt(rule, place)));
            return operate(operation, x, y);
        }

        private static long operate(int operation, long x, long y) {
            switch (operation) {
                case 1:
                    return x;
                case 2:
                    return x + y;
                case 3:
                    return x - y;
                case 4:
                    return x * y;
                case 5:
                    return x < y ? 1L : 0L;
                case 6:
                    return Math.max(x, y);
                default:
                    return y != 0L ? x : 0L;
            }
        }
    }
}
