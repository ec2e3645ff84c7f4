/** A model checker for probabilistic temporal logic on small Markov chains; all results are exact. */
public final class ProbabilisticChecker {
    public static final int BAD = -1;
    public static final int NONE = -2;
    public static final int FULL = -3;
    public static final int REFUSED = -4;
    public static final int INFINITE = -5;

    private static final int MOST_STATES = 8;
    private static final int MOST_WEIGHT = 9;
    private static final int MOST_SUM = 10;
    private static final int MOST_LABELS = 15;
    private static final int MOST_REWARD = 9;
    private static final int MOST_CHANGES = 8;
    private static final int MOST_FORMULAS = 6;
    private static final int MOST_LETTERS = 50;
    private static final int FIRST_LETTER = 33;
    private static final int LAST_LETTER = 126;
    private static final int MOST_NESTED = 5;
    private static final int MOST_BOUND = 6;
    private static final int MOST_WALK = 100;
    private static final long FINEST = 1000000000000000L;
    private static final int WRONG_AT = -100;

    private final Chain chain;
    private final Chain snapshot;
    private final History history;
    private final Lumping lumping;
    private final Model model;
    private final BestPaths paths;
    private final StringBuilder buffer;
    private final Formula[] formulas;
    private int formulaTotal;
    private boolean saved;

    public ProbabilisticChecker() {
        Chain ownChain = new Chain();
        chain = ownChain;
        snapshot = new Chain();
        history = new History();
        lumping = new Lumping(ownChain);
        model = new Model(ownChain);
        paths = new BestPaths(ownChain);
        buffer = new StringBuilder();
        formulas = new Formula[MOST_FORMULAS];
        formulaTotal = 0;
        saved = false;
    }

    // The chain

    public int addState() {
        if (chain.size() >= MOST_STATES) {
            return FULL;
        }
        history.record(chain);
        chain.grow();
        return chain.size() - 1;
    }

    public int removeState() {
        if (chain.size() <= 0) {
            return NONE;
        }
        history.record(chain);
        chain.shrink();
        return chain.size();
    }

    public int stateCount() {
        return chain.size();
    }

    public int setWeight(int from, int to, int weight) {
        if (!chain.has(from) || !chain.has(to) || weight < 0 || weight > MOST_WEIGHT) {
            return BAD;
        }
        int previous = chain.weightOf(from, to);
        if (chain.sumOf(from) - previous + weight > MOST_SUM) {
            return FULL;
        }
        history.record(chain);
        chain.putWeight(from, to, weight);
        return previous;
    }

    public int weight(int from, int to) {
        return chain.has(from) && chain.has(to) ? chain.weightOf(from, to) : BAD;
    }

    public int sum(int state) {
        return chain.has(state) ? chain.sumOf(state) : BAD;
    }

    public int setLabels(int state, int labels) {
        if (!chain.has(state) || labels < 0 || labels > MOST_LABELS) {
            return BAD;
        }
        int previous = chain.labelsOf(state);
        history.record(chain);
        chain.putLabels(state, labels);
        return previous;
    }

    public int labels(int state) {
        return chain.has(state) ? chain.labelsOf(state) : BAD;
    }

    public int setReward(int state, int reward) {
        if (!chain.has(state) || reward < 0 || reward > MOST_REWARD) {
            return BAD;
        }
        int previous = chain.rewardOf(state);
        history.record(chain);
        chain.putReward(state, reward);
        return previous;
    }

    public int reward(int state) {
        return chain.has(state) ? chain.rewardOf(state) : BAD;
    }

    // Components and classes

    public int reaches(int state) {
        return chain.has(state) ? chain.reachedFrom(state) : BAD;
    }

    public int component(int state) {
        return chain.has(state) ? chain.componentOf(state) : BAD;
    }

    public int bottoms() {
        return chain.bottomStates();
    }

    public int classCount() {
        lumping.refine();
        return lumping.total();
    }

    public int classOf(int state) {
        if (!chain.has(state)) {
            return BAD;
        }
        lumping.refine();
        return lumping.numberOf(state);
    }

    public long lumped(int state, int c, int part) {
        if (!asksValue(state, part)) {
            return BAD;
        }
        lumping.refine();
        if (c < 0 || c >= lumping.total()) {
            return BAD;
        }
        model.solveStep(lumping.members(c));
        return model.part(state, part);
    }

    // Formulas

    public int feed(int letter) {
        if (letter < FIRST_LETTER || letter > LAST_LETTER) {
            return BAD;
        }
        if (buffer.length() >= MOST_LETTERS) {
            return FULL;
        }
        buffer.append((char) letter);
        return buffer.length();
    }

    public int addFormula() {
        String text = buffer.toString();
        buffer.setLength(0);
        Parser parser = new Parser(text);
        Node root = parser.readFormula(0);
        if (!parser.isDone()) {
            return WRONG_AT - parser.position();
        }
        int number = formulaTotal;
        if (number < 0 || number >= MOST_FORMULAS) {
            return FULL;
        }
        formulas[number] = new Formula(text, root);
        formulaTotal = number + 1;
        return number;
    }

    public int formulaCount() {
        return formulaTotal;
    }

    public int clearFormulas() {
        int removed = formulaTotal;
        for (int i = 0; i < MOST_FORMULAS; i++) {
            formulas[i] = null;
        }
        formulaTotal = 0;
        return removed;
    }

    public int letter(int formula, int i) {
        Formula found = find(formula);
        return found == null ? BAD : found.letterAt(i);
    }

    public int depth(int formula) {
        Formula found = find(formula);
        return found == null ? BAD : found.nesting();
    }

    public int holdsIn(int formula) {
        int error = errorOf(formula, formula, true);
        return error != 0 ? error : statesOf(rootOf(formula), model, 0);
    }

    public int holds(int formula, int state) {
        int error = errorOf(formula, formula, chain.has(state));
        if (error != 0) {
            return error;
        }
        return contains(statesOf(rootOf(formula), model, 0), state) ? 1 : 0;
    }

    // Probabilities and rewards

    public long next(int first, int state, int part) {
        int error = errorOf(first, first, asksValue(state, part));
        if (error != 0) {
            return error;
        }
        model.solveStep(statesOf(rootOf(first), model, 0));
        return model.part(state, part);
    }

    public long until(int first, int second, int state, int part) {
        int error = errorOf(first, second, asksValue(state, part));
        if (error != 0) {
            return error;
        }
        int through = statesOf(rootOf(first), model, 0);
        model.solveUntil(through, statesOf(rootOf(second), model, 0));
        return model.part(state, part);
    }

    public long within(int first, int second, int steps, int state, int part) {
        int error = errorOf(first, second, asksValue(state, part) && steps >= 0 && steps <= MOST_BOUND);
        if (error != 0) {
            return error;
        }
        if (model.refuses(steps)) {
            return REFUSED;
        }
        int through = statesOf(rootOf(first), model, 0);
        model.countWithin(through, statesOf(rootOf(second), model, 0), steps);
        return model.part(state, part);
    }

    public int never(int first, int second) {
        int error = errorOf(first, second, true);
        if (error != 0) {
            return error;
        }
        int through = statesOf(rootOf(first), model, 0);
        return chain.neverUntil(through, statesOf(rootOf(second), model, 0));
    }

    public int surely(int first, int second) {
        int error = errorOf(first, second, true);
        if (error != 0) {
            return error;
        }
        int through = statesOf(rootOf(first), model, 0);
        return chain.surelyUntil(through, statesOf(rootOf(second), model, 0));
    }

    public long steady(int first, int state, int part) {
        int error = errorOf(first, first, asksValue(state, part));
        if (error != 0) {
            return error;
        }
        model.solveSteady(statesOf(rootOf(first), model, 0));
        return model.part(state, part);
    }

    public long share(int state, int part) {
        if (!asksValue(state, part)) {
            return BAD;
        }
        model.solveSteady(1 << state);
        return model.part(state, part);
    }

    public long expected(int first, int state, int part) {
        int error = errorOf(first, first, asksValue(state, part));
        if (error != 0) {
            return error;
        }
        model.solveExpected(statesOf(rootOf(first), model, 0));
        return model.isInfinite(state) ? INFINITE : model.part(state, part);
    }

    public int bestPath(int first, int second, int state, int i) {
        int error = errorOf(first, second, chain.has(state) && i >= -1);
        if (error != 0) {
            return error;
        }
        int through = statesOf(rootOf(first), model, 0);
        paths.search(through, statesOf(rootOf(second), model, 0));
        int length = paths.lengthFrom(state);
        if (length == 0 || i >= length) {
            return NONE;
        }
        return i < 0 ? length : paths.stateAt(state, i);
    }

    public long bestProduct(int first, int second, int state, int part) {
        int error = errorOf(first, second, asksValue(state, part));
        if (error != 0) {
            return error;
        }
        int through = statesOf(rootOf(first), model, 0);
        paths.search(through, statesOf(rootOf(second), model, 0));
        return paths.lengthFrom(state) == 0 ? NONE : paths.product(state, part);
    }

    public int walk(int state, int steps, int seed) {
        if (!chain.has(state) || steps < 0 || steps > MOST_WALK) {
            return BAD;
        }
        int at = state;
        int z = seed;
        for (int i = 0; i < steps; i++) {
            z = z * 1103515245 + 12345;
            at = chain.drawn(at, z >>> 8);
        }
        return at;
    }

    // Snapshots and undo

    public int save() {
        snapshot.copyFrom(chain);
        saved = true;
        return chain.size();
    }

    public int restore() {
        if (!saved) {
            return NONE;
        }
        history.record(chain);
        chain.copyFrom(snapshot);
        return chain.size();
    }

    public int undo() {
        return history.takeBack(chain) ? history.total() : NONE;
    }

    // What the methods above share

    private boolean asksValue(int state, int part) {
        return chain.has(state) && (part == 0 || part == 1);
    }

    private Formula find(int number) {
        return number >= 0 && number < formulaTotal && number < MOST_FORMULAS ? formulas[number] : null;
    }

    private Node rootOf(int number) {
        Formula found = find(number);
        return found == null ? null : found.root;
    }

    /** The error code of a call about two formulas whose other arguments are as described or not; 0 if none. */
    private int errorOf(int first, int second, boolean othersFit) {
        Formula one = find(first);
        Formula two = find(second);
        if (one == null || two == null || !othersFit) {
            return BAD;
        }
        return model.refuses(Math.max(one.longest(), two.longest())) ? REFUSED : 0;
    }

    /** The states in which a formula holds that stands inside as many others as level tells. */
    private static int statesOf(Node node, Model model, int level) {
        if (node == null || model == null || level > MOST_NESTED) {
            return 0;
        }
        Chain chain = model.chain;
        int first = statesOf(node.first, model, level + 1);
        int second = statesOf(node.second, model, level + 1);
        switch (node.kind) {
            case 't':
                return chain.all();
            case 'a':
            case 'b':
            case 'c':
            case 'd':
                return chain.labelled(node.kind - 'a');
            case '!':
                return chain.all() & ~first;
            case '&':
                return first & second;
            case '|':
                return first | second;
            case 'X':
                model.solveStep(first);
                break;
            case 'F':
                model.solveUntil(chain.all(), first);
                break;
            case 'G':
                model.solveUntil(chain.all(), chain.all() & ~first);
                model.complement();
                break;
            case 'U':
                model.solveUntil(first, second);
                break;
            case 'B':
                model.countWithin(first, second, node.steps);
                break;
            case 'S':
                model.solveSteady(first);
                break;
            default:
                model.solveExpected(first);
                break;
        }
        return model.fulfilling(node.bound);
    }

    private static boolean contains(int set, int state) {
        return state >= 0 && state < MOST_STATES && (set >> state & 1) == 1;
    }

    private static boolean isIndex(int state) {
        return state >= 0 && state < MOST_STATES;
    }

    /** The greatest common divisor of two numbers that are not negative, at least 1. */
    private static long commonDivisor(long a, long b) {
        long greater = a;
        long smaller = b;
        // Euclid's numbers at least halve every two rounds, so a long is used up after 126 of them.
        for (int i = 0; i < 128 && smaller != 0; i++) {
            long rest = greater % smaller;
            greater = smaller;
            smaller = rest;
        }
        return greater > 0 ? greater : 1;
    }

    private static long commonMultiple(long a, long b) {
        long divisor = commonDivisor(a, b);
        return divisor == 0 ? 0 : a / divisor * b;
    }

    /** States with weights, labels and rewards, and what can be told from the graph of steps alone. */
    private static final class Chain {
        private final int[] weights = new int[MOST_STATES * MOST_STATES];
        private final int[] labelSets = new int[MOST_STATES];
        private final int[] rewards = new int[MOST_STATES];
        private int size;

        int size() {
            return size;
        }

        boolean has(int state) {
            return state >= 0 && state < size && state < MOST_STATES;
        }

        int all() {
            return (1 << size) - 1;
        }

        void grow() {
            if (size < MOST_STATES) {
                size++;
            }
        }

        /** Clears what belonged to the last state, since a state that is added later begins empty. */
        void shrink() {
            if (size <= 0) {
                return;
            }
            int last = size - 1;
            for (int other = 0; other < MOST_STATES; other++) {
                putWeight(last, other, 0);
                putWeight(other, last, 0);
            }
            putLabels(last, 0);
            putReward(last, 0);
            size = last;
        }

        void copyFrom(Chain other) {
            if (other == null) {
                return;
            }
            for (int i = 0; i < weights.length && i < other.weights.length; i++) {
                weights[i] = other.weights[i];
            }
            for (int i = 0; i < MOST_STATES; i++) {
                labelSets[i] = other.labelSets[i];
                rewards[i] = other.rewards[i];
            }
            size = other.size;
        }

        int weightOf(int from, int to) {
            int cell = from * MOST_STATES + to;
            return to >= 0 && to < MOST_STATES && cell >= 0 && cell < weights.length ? weights[cell] : 0;
        }

        void putWeight(int from, int to, int weight) {
            int cell = from * MOST_STATES + to;
            if (has(from) && has(to) && cell < weights.length) {
                weights[cell] = weight;
            }
        }

        int labelsOf(int state) {
            return has(state) ? labelSets[state] : 0;
        }

        void putLabels(int state, int labels) {
            if (has(state)) {
                labelSets[state] = labels;
            }
        }

        int rewardOf(int state) {
            return has(state) ? rewards[state] : 0;
        }

        void putReward(int state, int reward) {
            if (has(state)) {
                rewards[state] = reward;
            }
        }

        int sumOf(int state) {
            int total = 0;
            for (int to = 0; to < size; to++) {
                total += weightOf(state, to);
            }
            return total;
        }

        /** The sum, or 1 for a state without weights, which steps to itself. */
        int divisorOf(int state) {
            int total = sumOf(state);
            return total > 0 ? total : 1;
        }

        /** The probability of a step, times the divisor of the state from which it leads. */
        int stepWeight(int from, int to) {
            return from == to && sumOf(from) == 0 ? 1 : weightOf(from, to);
        }

        int stepWeightInto(int from, int set) {
            int total = 0;
            for (int to = 0; to < size; to++) {
                if (contains(set, to)) {
                    total += weightOf(from, to);
                }
            }
            return contains(set, from) && sumOf(from) == 0 ? 1 : total;
        }

        int successorsOf(int state) {
            int set = 0;
            for (int to = 0; to < size; to++) {
                if (weightOf(state, to) > 0) {
                    set |= 1 << to;
                }
            }
            return set == 0 ? 1 << state : set;
        }

        int labelled(int label) {
            int set = 0;
            for (int state = 0; state < size; state++) {
                if (contains(labelsOf(state), label)) {
                    set |= 1 << state;
                }
            }
            return set;
        }

        int reachedFrom(int state) {
            int set = 1 << state;
            // Each round but the last adds a state.
            for (int round = 0; round < size; round++) {
                for (int from = 0; from < size; from++) {
                    if (contains(set, from)) {
                        set |= successorsOf(from);
                    }
                }
            }
            return set;
        }

        int componentOf(int state) {
            int reached = reachedFrom(state);
            int set = 0;
            for (int other = 0; other < size; other++) {
                if (contains(reached, other) && contains(reachedFrom(other), state)) {
                    set |= 1 << other;
                }
            }
            return set;
        }

        /** The states that are reached back from each state that they reach. */
        int bottomStates() {
            int set = all();
            for (int state = 0; state < size; state++) {
                int reached = reachedFrom(state);
                for (int other = 0; other < size; other++) {
                    if (contains(reached, other) && !contains(reachedFrom(other), state)) {
                        set &= ~(1 << state);
                    }
                }
            }
            return set;
        }

        /** The states of goal, and those of through from which a path in through leads to goal. */
        int canReach(int through, int goal) {
            int set = goal;
            for (int round = 0; round < size; round++) {
                for (int from = 0; from < size; from++) {
                    if (contains(through, from) && (successorsOf(from) & set) != 0) {
                        set |= 1 << from;
                    }
                }
            }
            return set;
        }

        int neverUntil(int first, int second) {
            return all() & ~canReach(first, second);
        }

        int surelyUntil(int first, int second) {
            int lost = all() & ~canReach(first, second);
            return all() & ~canReach(first & ~second, lost);
        }

        /** The least common multiple of the divisors of all states. */
        long commonDivisors() {
            long multiple = 1;
            for (int state = 0; state < size; state++) {
                multiple = commonMultiple(multiple, divisorOf(state));
            }
            return multiple;
        }

        /** The lowest state such that the weights up to it are more than draw modulo the sum. */
        int drawn(int state, int draw) {
            int total = sumOf(state);
            if (total <= 0) {
                return state;
            }
            int rest = draw % total;
            for (int to = 0; to < size; to++) {
                rest -= weightOf(state, to);
                if (rest < 0) {
                    return to;
                }
            }
            return state;
        }
    }

    /** The chains before the latest changes, in a ring. */
    private static final class History {
        private final Chain[] kept = new Chain[MOST_CHANGES];
        private int place;
        private int total;

        History() {
            for (int i = 0; i < MOST_CHANGES; i++) {
                kept[i] = new Chain();
            }
            place = 0;
            total = 0;
        }

        int total() {
            return total;
        }

        void record(Chain chain) {
            Chain slot = slotAt(place);
            if (slot == null) {
                return;
            }
            slot.copyFrom(chain);
            place = (place + 1) % MOST_CHANGES;
            if (total < MOST_CHANGES) {
                total++;
            }
        }

        /** Puts the chain back before the latest change; false if there is none. */
        boolean takeBack(Chain chain) {
            if (total <= 0 || chain == null) {
                return false;
            }
            place = (place + MOST_CHANGES - 1) % MOST_CHANGES;
            chain.copyFrom(slotAt(place));
            total--;
            return true;
        }

        private Chain slotAt(int index) {
            return index >= 0 && index < MOST_CHANGES ? kept[index] : null;
        }
    }

    /** The coarsest partition of the states into classes of the same behaviour. */
    private static final class Lumping {
        private final Chain chain;
        private final int[] numbers = new int[MOST_STATES];
        private final int[] finer = new int[MOST_STATES];
        private int total;

        Lumping(Chain ownChain) {
            chain = ownChain;
            total = 0;
        }

        int total() {
            return total;
        }

        int numberOf(int state) {
            return isIndex(state) ? numbers[state] : 0;
        }

        int members(int number) {
            int set = 0;
            for (int state = 0; state < MOST_STATES; state++) {
                if (chain.has(state) && numbers[state] == number) {
                    set |= 1 << state;
                }
            }
            return set;
        }

        void refine() {
            for (int state = 0; state < MOST_STATES; state++) {
                numbers[state] = 0;
            }
            total = 0;
            int found = chain.size() > 0 ? 1 : 0;
            // Each round but the last adds a class, and there are no more classes than states.
            for (int round = 0; round <= MOST_STATES && found > total; round++) {
                total = found;
                found = split();
                for (int state = 0; state < MOST_STATES; state++) {
                    numbers[state] = finer[state];
                }
            }
        }

        /** Fills finer with the classes of states that are alike as numbers has them; returns how many there are. */
        private int split() {
            int found = 0;
            for (int state = 0; state < MOST_STATES; state++) {
                if (!chain.has(state)) {
                    continue;
                }
                int number = found;
                for (int other = 0; other < state && number == found; other++) {
                    if (isAlike(other, state)) {
                        number = finer[other];
                    }
                }
                finer[state] = number;
                if (number == found) {
                    found++;
                }
            }
            return found;
        }

        private boolean isAlike(int one, int other) {
            if (chain.labelsOf(one) != chain.labelsOf(other) || chain.rewardOf(one) != chain.rewardOf(other)
                    || numberOf(one) != numberOf(other)) {
                return false;
            }
            for (int number = 0; number < total; number++) {
                int set = members(number);
                int left = chain.stepWeightInto(one, set) * chain.divisorOf(other);
                int right = chain.stepWeightInto(other, set) * chain.divisorOf(one);
                if (left != right) {
                    return false;
                }
            }
            return true;
        }
    }

    /** A bound on a probability or an expected reward. */
    private static final class Bound {
        private final boolean upper;
        private final boolean orEqual;
        private final int top;
        private final int bottom;

        Bound(boolean isUpper, boolean allowsEqual, int numerator, int denominator) {
            upper = isUpper;
            orEqual = allowsEqual;
            top = numerator;
            bottom = denominator;
        }

        /** Whether a fraction fulfils the bound; the infinite 1 / 0 comes out greater than any number. */
        boolean admits(long numerator, long denominator) {
            long left = numerator * bottom;
            long right = denominator * top;
            if (left == right) {
                return orEqual;
            }
            return upper ? left < right : left > right;
        }
    }

    /** A part of a formula; its kind is its sign, and for P the letter of its way. */
    private static final class Node {
        private final int kind;
        private final Bound bound;
        private final int steps;
        private final Node first;
        private final Node second;
        /** How many P, S and R are inside one another. */
        private final int depth;
        /** The greatest number of steps of a bounded until. */
        private final int longest;

        Node(int ownKind, Bound ownBound, int ownSteps, Node one, Node two) {
            kind = ownKind;
            bound = ownBound;
            steps = ownSteps;
            first = one;
            second = two;
            int deepest = Math.max(one == null ? 0 : one.depth, two == null ? 0 : two.depth);
            int most = Math.max(one == null ? 0 : one.longest, two == null ? 0 : two.longest);
            depth = ownBound == null ? deepest : deepest + 1;
            longest = Math.max(most, ownSteps);
        }
    }

    /** A formula that was added. */
    private static final class Formula {
        private final String text;
        private final Node root;

        Formula(String ownText, Node ownRoot) {
            text = ownText;
            root = ownRoot;
        }

        int letterAt(int i) {
            return text != null && i >= 0 && i < text.length() ? text.charAt(i) : NONE;
        }

        int nesting() {
            return root == null ? 0 : root.depth;
        }

        int longest() {
            return root == null ? 0 : root.longest;
        }
    }

    /** Reads a text from left to right, and stays at the first character that cannot continue it. */
    private static final class Parser {
        private final String text;
        private int at;
        private boolean failed;

        Parser(String ownText) {
            text = ownText;
            at = 0;
            failed = false;
        }

        int position() {
            return at;
        }

        /** Whether the whole text was read, and without an error. */
        boolean isDone() {
            return !failed && at == text.length();
        }

        /** Reads a formula inside as many others as level tells; behind an error the answer means nothing. */
        private Node readFormula(int level) {
            char sign = peek();
            if (sign == 't' || sign >= 'a' && sign <= 'd') {
                at++;
                return new Node(sign, null, 0, null, null);
            }
            if (level >= MOST_NESTED) {
                failed = true;
            }
            if (skip('!')) {
                return readOpposite(level);
            }
            if (skip('(')) {
                return readPair(level);
            }
            if (skip('P')) {
                return readProbability(level);
            }
            if (skip('S')) {
                return readBounded('S', level);
            }
            if (skip('R')) {
                return readBounded('R', level);
            }
            failed = true;
            return null;
        }

        private Node readOpposite(int level) {
            return new Node('!', null, 0, readFormula(level + 1), null);
        }

        private Node readPair(int level) {
            Node one = readFormula(level + 1);
            int kind = '&';
            if (!skip('&')) {
                kind = '|';
                expect('|');
            }
            Node two = readFormula(level + 1);
            expect(')');
            return new Node(kind, null, 0, one, two);
        }

        private Node readBounded(int kind, int level) {
            Bound bound = readBound();
            expect('[');
            Node inside = readFormula(level + 1);
            expect(']');
            return new Node(kind, bound, 0, inside, null);
        }

        private Node readProbability(int level) {
            Bound bound = readBound();
            expect('[');
            char way = peek();
            if (way != 'X' && way != 'F' && way != 'G' && way != 'U' && way != 'B') {
                failed = true;
            }
            skip(way);
            int steps = way == 'B' ? readSteps() : 0;
            Node one = readFormula(level + 1);
            Node two = null;
            if (way == 'U' || way == 'B') {
                expect(',');
                two = readFormula(level + 1);
            }
            expect(']');
            return new Node(way, bound, steps, one, two);
        }

        private Bound readBound() {
            boolean upper = skip('<');
            if (!upper) {
                expect('>');
            }
            boolean orEqual = skip('=');
            int top = readNumber();
            int bottom = skip('/') ? readNumber() : 1;
            if (!failed && bottom == 0) {
                at--;
                failed = true;
            }
            return new Bound(upper, orEqual, top, bottom);
        }

        private int readNumber() {
            int number = 0;
            for (int digits = 0; digits < 2; digits++) {
                char sign = peek();
                if (sign >= '0' && sign <= '9') {
                    number = number * 10 + (sign - '0');
                    at++;
                } else if (digits == 0) {
                    failed = true;
                }
            }
            return number;
        }

        private int readSteps() {
            char sign = peek();
            if (sign < '0' || sign > '0' + MOST_BOUND) {
                failed = true;
                return 0;
            }
            at++;
            return sign - '0';
        }

        /** The next character; 0 at the end of the text, and behind an error. */
        private char peek() {
            return !failed && at >= 0 && at < text.length() ? text.charAt(at) : (char) 0;
        }

        private boolean skip(char sign) {
            if (failed || peek() != sign) {
                return false;
            }
            at++;
            return true;
        }

        private void expect(char sign) {
            if (!skip(sign)) {
                failed = true;
            }
        }
    }

    /** A linear equation for each state, solved without fractions. */
    private static final class Equations {
        private static final int WIDTH = MOST_STATES + 1;
        private final long[] cells = new long[MOST_STATES * WIDTH];

        /** Makes every equation say that the value of its state is 0. */
        void clear() {
            for (int row = 0; row < MOST_STATES; row++) {
                clearRow(row);
                put(row, row, 1);
            }
        }

        void clearRow(int row) {
            for (int column = 0; column < WIDTH; column++) {
                put(row, column, 0);
            }
        }

        void put(int row, int column, long value) {
            int cell = row * WIDTH + column;
            if (column >= 0 && column < WIDTH && cell >= 0 && cell < cells.length) {
                cells[cell] = value;
            }
        }

        void add(int row, int column, long value) {
            put(row, column, get(row, column) + value);
        }

        void putRight(int row, long value) {
            put(row, MOST_STATES, value);
        }

        /**
         * Fraction-free elimination: every division is exact, and in the end each diagonal cell is the determinant.
         * The equations of this program have diagonals that outweigh their rows, so no pivot is 0.
         */
        void solve() {
            long previous = 1;
            for (int pivot = 0; pivot < MOST_STATES; pivot++) {
                for (int row = 0; row < MOST_STATES; row++) {
                    if (row != pivot) {
                        eliminate(row, pivot, previous);
                    }
                }
                previous = get(pivot, pivot);
            }
        }

        private void eliminate(int row, int pivot, long previous) {
            if (previous == 0) {
                return;
            }
            long factor = get(row, pivot);
            long diagonal = get(pivot, pivot);
            for (int column = 0; column < WIDTH; column++) {
                put(row, column, (diagonal * get(row, column) - factor * get(pivot, column)) / previous);
            }
        }

        /** The value of a state, times the determinant. */
        long solution(int row) {
            return get(row, MOST_STATES);
        }

        long determinant() {
            return get(0, 0);
        }

        private long get(int row, int column) {
            int cell = row * WIDTH + column;
            return column >= 0 && column < WIDTH && cell >= 0 && cell < cells.length ? cells[cell] : 0;
        }
    }

    /** Probabilities and expected rewards: each method but the askers works out a fraction for every state. */
    private static final class Model {
        private final Chain chain;
        private final Equations equations = new Equations();
        private final long[] tops = new long[MOST_STATES];
        /** A denominator 0 stands for an infinite value. */
        private final long[] bottoms = new long[MOST_STATES];
        private final long[] counts = new long[MOST_STATES];
        private final long[] laterCounts = new long[MOST_STATES];

        Model(Chain ownChain) {
            chain = ownChain;
        }

        long part(int state, int part) {
            if (!isIndex(state)) {
                return 0;
            }
            return part == 0 ? tops[state] : bottoms[state];
        }

        boolean isInfinite(int state) {
            return isIndex(state) && bottoms[state] == 0;
        }

        int fulfilling(Bound bound) {
            int set = 0;
            for (int state = 0; state < MOST_STATES; state++) {
                if (bound != null && chain.has(state) && bound.admits(tops[state], bottoms[state])) {
                    set |= 1 << state;
                }
            }
            return set;
        }

        /** Whether a bounded until with so many steps is refused. */
        boolean refuses(int steps) {
            long multiple = chain.commonDivisors();
            long power = 1;
            for (int i = 0; i < steps; i++) {
                power *= multiple;
                if (power > FINEST) {
                    return true;
                }
            }
            return false;
        }

        void solveStep(int goal) {
            for (int state = 0; state < MOST_STATES; state++) {
                put(state, chain.stepWeightInto(state, goal), chain.divisorOf(state));
            }
        }

        void solveUntil(int first, int second) {
            int unknown = chain.canReach(first, second) & ~second;
            equations.clear();
            for (int state = 0; state < MOST_STATES; state++) {
                if (contains(unknown, state)) {
                    balance(state);
                } else if (contains(second, state)) {
                    equations.putRight(state, 1);
                }
            }
            equations.solve();
            for (int state = 0; state < MOST_STATES; state++) {
                put(state, equations.solution(state), equations.determinant());
            }
        }

        /** Puts 1 minus each fraction in its place. */
        void complement() {
            for (int state = 0; state < MOST_STATES; state++) {
                put(state, bottoms[state] - tops[state], bottoms[state]);
            }
        }

        /** Counts with one denominator for all states, a power of the common multiple; refuses() keeps it small. */
        void countWithin(int first, int second, int steps) {
            long multiple = chain.commonDivisors();
            long scale = 1;
            for (int state = 0; state < MOST_STATES; state++) {
                counts[state] = contains(second, state) ? 1 : 0;
            }
            for (int i = 0; i < steps && i < MOST_BOUND; i++) {
                scale *= multiple;
                for (int state = 0; state < MOST_STATES; state++) {
                    boolean goesOn = contains(first, state) && !contains(second, state);
                    laterCounts[state] = goesOn ? countBefore(state, multiple) : contains(second, state) ? scale : 0;
                }
                for (int state = 0; state < MOST_STATES; state++) {
                    counts[state] = laterCounts[state];
                }
            }
            for (int state = 0; state < MOST_STATES; state++) {
                put(state, counts[state], scale);
            }
        }

        /** The count for a path that is one step longer, times multiple. */
        private long countBefore(int state, long multiple) {
            int divisor = chain.divisorOf(state);
            if (divisor == 0) {
                return 0;
            }
            long total = 0;
            for (int to = 0; to < MOST_STATES; to++) {
                total += chain.stepWeight(state, to) * counts[to];
            }
            return multiple / divisor * total;
        }

        void solveExpected(int goal) {
            int sure = chain.surelyUntil(chain.all(), goal);
            equations.clear();
            for (int state = 0; state < MOST_STATES; state++) {
                if (contains(sure & ~goal, state)) {
                    balance(state);
                    equations.putRight(state, (long) chain.divisorOf(state) * chain.rewardOf(state));
                }
            }
            equations.solve();
            for (int state = 0; state < MOST_STATES; state++) {
                if (contains(sure, state)) {
                    put(state, equations.solution(state), equations.determinant());
                } else {
                    put(state, 1, 0);
                }
            }
        }

        /** Works out each bottom component for itself, and then the chances to come to them. */
        void solveSteady(int goal) {
            int bottomStates = chain.bottomStates();
            int open = bottomStates;
            long scale = 1;
            for (int state = 0; state < MOST_STATES; state++) {
                if (contains(open, state)) {
                    int component = chain.reachedFrom(state);
                    solveFlow(component, state);
                    shareOut(component, goal);
                    scale = commonMultiple(scale, bottoms[state]);
                    open &= ~component;
                }
            }
            equations.clear();
            for (int state = 0; state < MOST_STATES; state++) {
                if (!contains(bottomStates, state)) {
                    balance(state);
                } else if (bottoms[state] != 0) {
                    equations.putRight(state, scale / bottoms[state] * tops[state]);
                }
            }
            equations.solve();
            for (int state = 0; state < MOST_STATES; state++) {
                put(state, equations.solution(state), equations.determinant() * scale);
            }
        }

        /** Gives the states of a bottom component, whose flow is solved, the share of their steps that are in goal. */
        private void shareOut(int component, int goal) {
            long inside = 0;
            long total = 0;
            for (int state = 0; state < MOST_STATES; state++) {
                if (contains(component, state)) {
                    long visits = chain.divisorOf(state) * equations.solution(state);
                    total += visits;
                    inside += contains(goal, state) ? visits : 0;
                }
            }
            for (int state = 0; state < MOST_STATES; state++) {
                if (contains(component, state)) {
                    put(state, inside, total);
                }
            }
        }

        /** Solves how often each state is left by each of its weights, if that is 1 for lowest. */
        private void solveFlow(int component, int lowest) {
            equations.clear();
            for (int to = 0; to < MOST_STATES; to++) {
                if (!contains(component, to) || to == lowest) {
                    continue;
                }
                equations.put(to, to, chain.divisorOf(to));
                for (int from = 0; from < MOST_STATES; from++) {
                    if (contains(component, from)) {
                        equations.add(to, from, -chain.stepWeight(from, to));
                    }
                }
            }
            equations.putRight(lowest, 1);
            equations.solve();
        }

        /** Makes the equation of a state say that its value is the mean of those of its successors. */
        private void balance(int state) {
            if (!chain.has(state)) {
                return;
            }
            equations.clearRow(state);
            equations.put(state, state, chain.divisorOf(state));
            for (int to = 0; to < MOST_STATES; to++) {
                equations.add(state, to, -chain.stepWeight(state, to));
            }
        }

        private void put(int state, long top, long bottom) {
            long divisor = commonDivisor(top, bottom);
            if (isIndex(state) && divisor != 0) {
                tops[state] = top / divisor;
                bottoms[state] = bottom / divisor;
            }
        }
    }

    /** The best paths from all states to a goal. */
    private static final class BestPaths {
        private final Chain chain;
        private final long[] tops = new long[MOST_STATES];
        private final long[] bottoms = new long[MOST_STATES];
        /** The numbers of states of the paths; 0 where there is none. */
        private final int[] lengths = new int[MOST_STATES];
        private int through;

        BestPaths(Chain ownChain) {
            chain = ownChain;
            through = 0;
        }

        void search(int first, int second) {
            through = first & ~second;
            for (int state = 0; state < MOST_STATES; state++) {
                tops[state] = 1;
                bottoms[state] = 1;
                lengths[state] = contains(second, state) ? 1 : 0;
            }
            // A best path has no state twice, so its products are settled after as many rounds as it has steps.
            for (int round = 0; round < MOST_STATES; round++) {
                for (int state = 0; state < MOST_STATES; state++) {
                    improve(state);
                }
            }
        }

        int lengthFrom(int state) {
            return isIndex(state) ? lengths[state] : 0;
        }

        long product(int state, int part) {
            if (!isIndex(state)) {
                return 0;
            }
            long divisor = commonDivisor(tops[state], bottoms[state]);
            if (divisor == 0) {
                return 0;
            }
            return part == 0 ? tops[state] / divisor : bottoms[state] / divisor;
        }

        int stateAt(int start, int position) {
            int at = start;
            for (int i = 0; i < position && i < MOST_STATES; i++) {
                at = following(at);
            }
            return at;
        }

        private void improve(int state) {
            for (int to = 0; to < MOST_STATES; to++) {
                if (!isStep(state, to)) {
                    continue;
                }
                long gain = gainOf(state, to);
                boolean isFirst = lengths[state] == 0;
                if (isFirst || gain > 0 || gain == 0 && lengths[to] + 1 < lengths[state]) {
                    tops[state] = chain.stepWeight(state, to) * tops[to];
                    bottoms[state] = chain.divisorOf(state) * bottoms[to];
                    lengths[state] = lengths[to] + 1;
                }
            }
        }

        /** The lowest state with which the best path can go on; the rest of it is a best path again. */
        private int following(int state) {
            for (int to = 0; to < MOST_STATES; to++) {
                if (isStep(state, to) && gainOf(state, to) == 0 && lengths[to] + 1 == lengthFrom(state)) {
                    return to;
                }
            }
            return state;
        }

        private boolean isStep(int state, int to) {
            return contains(through, state) && chain.stepWeight(state, to) > 0 && lengthFrom(to) > 0;
        }

        /** Above 0 if the product by way of a state is greater than the one that stands, 0 if they are the same. */
        private long gainOf(int state, int to) {
            if (!isIndex(state) || !isIndex(to)) {
                return 0;
            }
            long offered = chain.stepWeight(state, to) * tops[to] * bottoms[state];
            long standing = tops[state] * chain.divisorOf(state) * bottoms[to];
            return offered - standing;
        }
    }
}
