/** The boundaries of the chain: promises 1 to 11, and what the description says of states, weights and labels. */
final class ChainBoundaries {
    private static final int BAD = ProbabilisticChecker.BAD;
    private static final int NONE = ProbabilisticChecker.NONE;
    private static final int FULL = ProbabilisticChecker.FULL;

    private final Clauses c;

    ChainBoundaries(Clauses clauses) {
        c = clauses;
    }

    void run() {
        eightStates();
        weights();
        sums();
        sumOfZero();
        successors();
        labelsAndRewards();
        sets();
        components();
        newObject();
        addState();
        removeState();
        stateCount();
        setWeight();
        fullSums();
        setLabels();
        setReward();
        queriesOfNoState();
    }

    /** Numbers that are no states of a chain of n: just outside, the capacity, far outside. */
    static int[] outside(int n) {
        return new int[] {-1, -2, n, n + 1, 8, 9, 32, 64, Integer.MIN_VALUE, Integer.MIN_VALUE + n, Integer.MAX_VALUE};
    }

    static ProbabilisticChecker states(int n) {
        return ChainTest.withStates(n);
    }

    /** A step from each state to the next one, and from the last one to 0. */
    static ProbabilisticChecker ring(int n) {
        ProbabilisticChecker x = states(n);
        for (int s = 0; s < n; s++) {
            x.setWeight(s, (s + 1) % n, 1);
        }
        return x;
    }

    private void eightStates() {
        c.of(0, "There are at most 8 states, numbered from 0");
        ProbabilisticChecker x = new ProbabilisticChecker();
        for (int s = 0; s < 8; s++) {
            c.is("addState", x.addState(), s);
            c.is("it is there", x.labels(s), 0);
            c.is("the next one is not", x.labels(s + 1), BAD);
        }
        c.is("none is below 0", x.labels(-1), BAD);
        c.is("a ninth one", x.addState(), FULL);
        c.is("none is above 7", x.labels(8), BAD);
        c.is("still 8", x.stateCount(), 8);
    }

    private void weights() {
        c.of(0, "From each state to each state, possibly the same, there is a weight from 0 to 9, initially 0");
        ProbabilisticChecker x = states(8);
        for (int from = 0; from < 8; from++) {
            for (int to = 0; to < 8; to++) {
                c.is("initially", x.weight(from, to), 0);
                c.is("9", x.setWeight(from, to, 9), 0);
                c.is("is 9", x.weight(from, to), 9);
                c.is("0", x.setWeight(from, to, 0), 9);
                c.is("is 0", x.weight(from, to), 0);
            }
        }
        ProbabilisticChecker y = states(8);
        for (int s = 0; s < 8; s++) {
            c.is("10 to itself", y.setWeight(s, s, 10), BAD);
            c.is("-1 to itself", y.setWeight(s, s, -1), BAD);
            c.is("10 to another one", y.setWeight(s, 7 - s, 10), BAD);
            c.is("-1 to another one", y.setWeight(s, 7 - s, -1), BAD);
            c.is("to itself, and back to 0 with the sum", y.sum(s), 0);
        }
    }

    private void sums() {
        c.of(0, "The sum of a state is the sum of the weights from it");
        ProbabilisticChecker x = states(8);
        for (int to = 0; to < 8; to++) {
            x.setWeight(7, to, 1);
            c.is("weights to the first ones, and to itself at last", x.sum(7), to + 1);
        }
        c.is("weights to it do not count", x.sum(0), 0);
        c.of(0, "it is at most 10");
        c.is("9", x.setWeight(7, 0, 2), 1);
        c.is("10", x.setWeight(7, 7, 2), 1);
        c.is("10 is there", x.sum(7), 10);
        c.is("11", x.setWeight(7, 3, 2), FULL);
        c.is("still 10", x.sum(7), 10);
        c.of(0, "The probability of a step from a state to another one is the weight divided by the sum");
        ProbabilisticChecker y = states(2);
        y.setWeight(0, 1, 9);
        y.setWeight(0, 0, 1);
        int f = FormulaTest.add(y, "a");
        y.setLabels(1, 1);
        c.isFraction("the greatest of the greatest sum", y.next(f, 0, 0), y.next(f, 0, 1), 9, 10);
        y.setLabels(1, 0);
        y.setLabels(0, 1);
        c.isFraction("the least of the greatest sum", y.next(f, 0, 0), y.next(f, 0, 1), 1, 10);
        y.setWeight(0, 1, 0);
        c.isFraction("the only one", y.next(f, 0, 0), y.next(f, 0, 1), 1, 1);
    }

    /** State 0 has the label a, no weights, and a reward; state 1 comes to it. */
    private void sumOfZero() {
        c.of(0, "from a state with the sum 0, the step leads to the state itself with probability 1, and its sum counts "
                + "as 1 in what follows");
        ProbabilisticChecker x = states(3);
        x.setWeight(1, 0, 2);
        x.setWeight(1, 2, 2);
        x.setLabels(0, 1);
        int a = FormulaTest.add(x, "a");
        int t = FormulaTest.add(x, "t");
        int notA = FormulaTest.add(x, "!a");
        c.is("its sum itself is 0", x.sum(0), 0);
        c.isFraction("next, itself", x.next(a, 0, 0), x.next(a, 0, 1), 1, 1);
        c.isFraction("next, others", x.next(notA, 0, 0), x.next(notA, 0, 1), 0, 1);
        c.isFraction("until", x.until(t, notA, 0, 0), x.until(t, notA, 0, 1), 0, 1);
        c.isFraction("until, from 1", x.until(notA, a, 1, 0), x.until(notA, a, 1, 1), 1, 2);
        c.isFraction("within", x.within(t, notA, 6, 0, 0), x.within(t, notA, 6, 0, 1), 0, 1);
        c.isFraction("within, from 1", x.within(t, a, 6, 1, 0), x.within(t, a, 6, 1, 1), 1, 2);
        c.is("never", x.never(t, a), 4);
        c.is("surely", x.surely(t, a), 1);
        c.isFraction("steady", x.steady(a, 0, 0), x.steady(a, 0, 1), 1, 1);
        c.isFraction("share", x.share(2, 0), x.share(2, 1), 1, 1);
        c.is("expected", x.expected(a, 2, 0), ProbabilisticChecker.INFINITE);
        c.is("no path leaves it", x.bestPath(t, notA, 0, -1), NONE);
        c.is("reaches", x.reaches(0), 1);
        c.is("component", x.component(0), 1);
        c.is("bottoms", x.bottoms(), 5);
        c.is("walk", x.walk(0, 100, 1), 0);
        c.is("classes", x.classCount(), 3);
        c.isFraction("lumped, its own", x.lumped(2, 2, 0), x.lumped(2, 2, 1), 1, 1);
        c.isFraction("lumped, another one", x.lumped(2, 0, 0), x.lumped(2, 0, 1), 0, 1);
        c.is("no weight has appeared", x.weight(0, 0), 0);
        x.setWeight(2, 2, 9);
        x.setLabels(2, 1);
        c.is("the same as the weight 9 to itself", x.classOf(2), x.classOf(0));
    }

    private void successors() {
        c.of(0, "A state is a successor of another one if the probability of a step from the latter to the former is "
                + "not 0");
        ProbabilisticChecker x = states(3);
        x.setWeight(0, 1, 1);
        x.setWeight(0, 2, 9);
        c.is("1 of 10 is enough", x.reaches(0), 7);
        x.setWeight(0, 1, 0);
        c.is("0 is not", x.reaches(0), 5);
        x.setWeight(0, 2, 0);
        x.setWeight(0, 0, 9);
        c.is("nor is a way back", x.reaches(1), 2);
        c.of(0, "A path is a sequence of states in which each one but the first is a successor of the one before");
        ProbabilisticChecker y = ring(8);
        int t = FormulaTest.add(y, "t");
        int a = FormulaTest.add(y, "a");
        y.setLabels(0, 1);
        c.is("eight states", y.bestPath(t, a, 1, -1), 8);
        for (int i = 0; i < 8; i++) {
            c.is("in their order", y.bestPath(t, a, 1, i), (1 + i) % 8);
        }
        y.setWeight(7, 0, 0);
        c.is("a step is missing", y.bestPath(t, a, 1, -1), NONE);
        c.of(0, "A state reaches another one if there is a path from the former to the latter, possibly of one state");
        c.is("one state", y.reaches(7), 128);
        c.is("itself, though no path comes back", y.reaches(6), 192);
        c.is("itself first", y.reaches(0), 255);
    }

    private void labelsAndRewards() {
        c.of(0, "There are 4 labels, numbered from 0 and named a to d");
        ProbabilisticChecker x = states(8);
        for (int label = 0; label < 4; label++) {
            x.setLabels(label, 1 << label);
            x.setLabels(label + 4, 15 - (1 << label));
        }
        for (int label = 0; label < 4; label++) {
            int f = FormulaTest.add(x, "abcd".substring(label, label + 1));
            c.is("those that have it", x.holdsIn(f), 1 << label | (15 - (1 << label)) << 4);
        }
        c.is("no label 4", x.setLabels(0, 16), BAD);
        c.is("no label e", FormulaTest.add(x, "e"), -100);
        c.is("no label A", FormulaTest.add(x, "A"), -100);
        c.is("no label `", FormulaTest.add(x, "`"), -100);
        c.of(0, "each state has a set of them, initially none, and a reward from 0 to 9, initially 0");
        ProbabilisticChecker y = states(8);
        for (int s = 0; s < 8; s++) {
            c.is("no labels", y.setLabels(s, 15), 0);
            c.is("all labels", y.setLabels(s, 0), 15);
            c.is("reward 0", y.setReward(s, 9), 0);
            c.is("reward 9", y.setReward(s, 0), 9);
            c.is("reward 10", y.setReward(s, 10), BAD);
            c.is("reward -1", y.setReward(s, -1), BAD);
            c.is("0 again", y.reward(s), 0);
        }
    }

    private void sets() {
        c.of(0, "Sets of states are given as bits (bit s for state s)");
        ProbabilisticChecker x = states(8);
        for (int s = 0; s < 8; s++) {
            c.is("one state", x.reaches(s), 1 << s);
            c.is("one state", x.component(s), 1 << s);
        }
        int t = FormulaTest.add(x, "t");
        int none = FormulaTest.add(x, "!t");
        c.is("all states", x.holdsIn(t), 255);
        c.is("no state", x.holdsIn(none), 0);
        c.is("never, all", x.never(t, none), 255);
        c.is("never, none", x.never(t, t), 0);
        c.is("surely, all", x.surely(none, t), 255);
        c.is("surely, none", x.surely(t, none), 0);
        c.is("bottoms", x.bottoms(), 255);
        c.is("bottoms of no states", new ProbabilisticChecker().bottoms(), 0);
    }

    private void components() {
        c.of(0, "A component is a set of states of which each one reaches each other one, and which no such larger set "
                + "contains");
        ProbabilisticChecker x = ring(8);
        for (int s = 0; s < 8; s++) {
            c.is("all eight", x.component(s), 255);
        }
        x.setWeight(3, 4, 0);
        for (int s = 0; s < 8; s++) {
            c.is("a ring that is cut has none but single ones", x.component(s), 1 << s);
        }
        x.setWeight(7, 4, 1);
        x.setWeight(3, 1, 1);
        c.is("4 to 7", x.component(5), 240);
        c.is("0 alone", x.component(0), 1);
        c.is("1 to 3", x.component(1), 14);
        c.of(0, "A component is bottom if its states have successors in it only");
        c.is("1 to 3; the other ones leave theirs", x.bottoms(), 14);
        x.setWeight(2, 6, 1);
        c.is("one component of all", x.bottoms(), 255);
        x.setWeight(7, 0, 0);
        c.is("the least weight out of it is enough", x.bottoms(), 240);
        x.setWeight(4, 5, 0);
        c.is("a state with the sum 0", x.bottoms(), 16);
        for (int end = 0; end < 8; end++) {
            ProbabilisticChecker y = states(8);
            for (int s = 0; s < 8; s++) {
                y.setWeight(s, s, 9);
                y.setWeight(s, end, s == end ? 9 : 1);
            }
            c.is("the only way out leads to " + end, y.bottoms(), 1 << end);
        }
        c.of(13, "Returns the component of a state");
        c.is("the state itself is in it", x.component(4), 16);
        c.of(14, "Returns the states of all bottom components");
        c.is("none of no states", new ProbabilisticChecker().bottoms(), 0);
        c.is("all of single ones", states(8).bottoms(), 255);
    }

    private void newObject() {
        c.of(1, "Creates a checker with a chain without states");
        ProbabilisticChecker x = new ProbabilisticChecker();
        c.is("stateCount", x.stateCount(), 0);
        c.is("bottoms", x.bottoms(), 0);
        c.is("classCount", x.classCount(), 0);
        c.is("formulaCount", x.formulaCount(), 0);
        c.is("clearFormulas", x.clearFormulas(), 0);
        c.is("removeState", x.removeState(), NONE);
        c.is("undo", x.undo(), NONE);
        c.is("restore", x.restore(), NONE);
        c.is("an empty buffer", x.addFormula(), -100);
        c.is("walk", x.walk(0, 0, 0), BAD);
        c.is("share", x.share(0, 0), BAD);
        c.is("lumped", x.lumped(0, 0, 0), BAD);
        c.is("holdsIn", x.holdsIn(0), BAD);
        c.is("save", x.save(), 0);
        ProbabilisticChecker y = new ProbabilisticChecker();
        y.addState();
        c.is("nothing is shared with another one", y.restore(), NONE);
        c.is("nothing is shared with another one", x.stateCount(), 0);
    }

    private void addState() {
        c.of(2, "Adds a state");
        ProbabilisticChecker x = states(7);
        x.setWeight(6, 0, 9);
        x.addState();
        c.is("without weights", x.sum(7), 0);
        c.is("with none to it", x.weight(6, 7), 0);
        c.is("the other ones stay", x.sum(6), 9);
        c.of(2, "Returns the number of the state");
        ProbabilisticChecker y = new ProbabilisticChecker();
        c.is("the first one", y.addState(), 0);
        for (int s = 1; s < 7; s++) {
            y.addState();
        }
        c.is("the last one", y.addState(), 7);
        c.of(2, "FULL if there are 8 states");
        c.is("a ninth one", y.addState(), FULL);
        c.is("again", y.addState(), FULL);
        y.removeState();
        c.is("there is room again", y.addState(), 7);
        c.is("no more", y.addState(), FULL);
        y.undo();
        c.is("after undo", y.addState(), 7);
    }

    private void removeState() {
        c.of(3, "Removes the state with the highest number, together with the weights to it");
        ProbabilisticChecker x = states(8);
        for (int s = 0; s < 8; s++) {
            x.setWeight(s, 7, 9);
            x.setWeight(s, 0, 1);
        }
        x.setLabels(7, 15);
        x.setReward(7, 9);
        x.removeState();
        c.is("it is gone", x.labels(7), BAD);
        for (int s = 0; s < 7; s++) {
            c.is("no weight to it counts", x.sum(s), 1);
            c.is("no such weight", x.weight(s, 7), BAD);
        }
        c.is("room for other weights", x.setWeight(0, 6, 9), 0);
        c.is("reaches", x.reaches(0), 65);
        x.addState();
        c.is("the new one has no weights", x.sum(7), 0);
        c.is("and none to it", x.weight(6, 7), 0);
        c.is("nor labels", x.labels(7), 0);
        c.is("nor a reward", x.reward(7), 0);
        c.of(3, "Returns the number of states afterwards");
        for (int n = 7; n >= 0; n--) {
            c.is("one less", x.removeState(), n);
            c.is("stateCount", x.stateCount(), n);
        }
        c.of(3, "NONE if there are none");
        c.is("none are left", x.removeState(), NONE);
        c.is("none are left", x.removeState(), NONE);
        c.is("still none", x.stateCount(), 0);
        c.is("a new chain", new ProbabilisticChecker().removeState(), NONE);
    }

    private void stateCount() {
        c.of(4, "Returns the number of states");
        ProbabilisticChecker x = new ProbabilisticChecker();
        c.is("none", x.stateCount(), 0);
        for (int n = 1; n <= 8; n++) {
            x.addState();
            c.is("one more", x.stateCount(), n);
        }
        x.addState();
        c.is("no more than 8", x.stateCount(), 8);
    }

    private void setWeight() {
        c.of(5, "`weight`: the weight, 0 to 9");
        ProbabilisticChecker x = states(3);
        c.is("0", x.setWeight(0, 2, 0), 0);
        c.is("9", x.setWeight(0, 2, 9), 0);
        c.is("10", x.setWeight(1, 2, 10), BAD);
        c.is("-1", x.setWeight(1, 2, -1), BAD);
        c.is("1", x.setWeight(1, 2, 1), 0);
        c.of(5, "BAD if there is no such state or weight is out of range");
        for (int s : outside(3)) {
            c.is("from", x.setWeight(s, 0, 1), BAD);
            c.is("to", x.setWeight(0, s, 1), BAD);
            c.is("both", x.setWeight(s, s, 0), BAD);
        }
        int[] wrong = {-1, 10, 11, 16, Integer.MIN_VALUE, Integer.MAX_VALUE};
        for (int weight : wrong) {
            c.is("weight", x.setWeight(2, 2, weight), BAD);
        }
        c.is("nothing was set", x.sum(0) * 100 + x.sum(1) * 10 + x.sum(2), 910);
        c.is("no states", new ProbabilisticChecker().setWeight(0, 0, 0), BAD);
    }

    private void fullSums() {
        c.of(5, "FULL if the sum of the state would be greater than 10");
        ProbabilisticChecker x = states(8);
        x.setWeight(0, 1, 9);
        c.is("11", x.setWeight(0, 2, 2), FULL);
        c.is("10", x.setWeight(0, 2, 1), 0);
        c.is("11", x.setWeight(0, 7, 1), FULL);
        c.is("11 to itself", x.setWeight(0, 0, 1), FULL);
        c.is("the greatest weight", x.setWeight(0, 0, 9), FULL);
        c.is("more of the same one", x.setWeight(0, 2, 2), FULL);
        c.is("0 where there is 0", x.setWeight(0, 0, 0), 0);
        c.is("the same again", x.setWeight(0, 1, 9), 9);
        c.is("what is replaced does not count", x.setWeight(0, 1, 8), 9);
        c.is("back to 10", x.setWeight(0, 7, 1), 0);
        c.is("again full", x.setWeight(0, 1, 9), FULL);
        c.is("8 stays", x.weight(0, 1), 8);
        c.is("the weights to a state are no matter", x.setWeight(1, 0, 9), 0);
        ProbabilisticChecker y = states(8);
        for (int to = 0; to < 8; to++) {
            c.is("eight of 1", y.setWeight(3, to, 1), 0);
        }
        c.is("3 more", y.setWeight(3, 3, 4), FULL);
        c.is("2 more", y.setWeight(3, 3, 3), 1);
        c.is("one more", y.setWeight(3, 7, 2), FULL);
    }

    private void setLabels() {
        c.of(8, "`labels`: the labels as bits, 0 to 15");
        ProbabilisticChecker x = states(2);
        for (int labels = 0; labels <= 15; labels++) {
            c.is("set", x.setLabels(1, labels), Math.max(0, labels - 1));
            c.is("get", x.labels(1), labels);
        }
        c.is("16", x.setLabels(1, 16), BAD);
        c.is("-1", x.setLabels(1, -1), BAD);
        c.of(8, "BAD if an argument is out of range");
        int[] wrong = {-1, 16, 17, 31, 1 << 16, Integer.MIN_VALUE, Integer.MAX_VALUE};
        for (int labels : wrong) {
            c.is("labels", x.setLabels(0, labels), BAD);
        }
        for (int s : outside(2)) {
            c.is("state", x.setLabels(s, 0), BAD);
            c.is("both", x.setLabels(s, 16), BAD);
        }
        c.is("nothing was set", x.labels(0), 0);
        c.is("nothing was set", x.labels(1), 15);
        c.is("no states", new ProbabilisticChecker().setLabels(0, 0), BAD);
    }

    private void setReward() {
        c.of(10, "`reward`: the reward, 0 to 9");
        ProbabilisticChecker x = states(2);
        for (int reward = 0; reward <= 9; reward++) {
            c.is("set", x.setReward(1, reward), Math.max(0, reward - 1));
            c.is("get", x.reward(1), reward);
        }
        c.is("10", x.setReward(1, 10), BAD);
        c.is("-1", x.setReward(1, -1), BAD);
        c.of(10, "BAD if an argument is out of range");
        int[] wrong = {-1, 10, 11, 15, 1 << 16, Integer.MIN_VALUE, Integer.MAX_VALUE};
        for (int reward : wrong) {
            c.is("reward", x.setReward(0, reward), BAD);
        }
        for (int s : outside(2)) {
            c.is("state", x.setReward(s, 0), BAD);
            c.is("both", x.setReward(s, 10), BAD);
        }
        c.is("nothing was set", x.reward(0), 0);
        c.is("nothing was set", x.reward(1), 9);
        c.is("no states", new ProbabilisticChecker().setReward(0, 0), BAD);
    }

    private void queriesOfNoState() {
        c.of(7, "Returns the sum of the weights, 0 to 10");
        ProbabilisticChecker x = states(2);
        c.is("0", x.sum(0), 0);
        for (int weight = 1; weight <= 9; weight++) {
            x.setWeight(0, 1, weight);
            c.is("1 to 9", x.sum(0), weight);
        }
        x.setWeight(0, 0, 1);
        c.is("10", x.sum(0), 10);
        c.of(9, "Returns the labels as bits");
        x.setLabels(1, 15);
        c.is("all", x.labels(1), 15);
        c.is("none", x.labels(0), 0);
        int[] sizes = {0, 1, 3, 7, 8};
        for (int n : sizes) {
            ProbabilisticChecker y = states(n);
            for (int s : outside(n)) {
                c.of(6, "BAD if there is no such state");
                c.is("from, of " + n, y.weight(s, 0), BAD);
                c.is("to, of " + n, y.weight(0, s), BAD);
                c.is("both, of " + n, y.weight(s, s), BAD);
                c.of(7, "BAD if there is no such state");
                c.is("of " + n, y.sum(s), BAD);
                c.of(9, "BAD if there is no such state");
                c.is("of " + n, y.labels(s), BAD);
                c.of(11, "BAD if there is no such state");
                c.is("of " + n, y.reward(s), BAD);
                c.of(12, "BAD if there is no such state");
                c.is("of " + n, y.reaches(s), BAD);
                c.of(13, "BAD if there is no such state");
                c.is("of " + n, y.component(s), BAD);
                c.of(16, "BAD if there is no such state");
                c.is("of " + n, y.classOf(s), BAD);
            }
        }
        removedOnes();
    }

    /** A state that was there is none any more. */
    private void removedOnes() {
        ProbabilisticChecker x = ring(8);
        x.removeState();
        c.of(6, "BAD if there is no such state");
        c.is("removed", x.weight(6, 7), BAD);
        c.is("removed", x.weight(7, 0), BAD);
        c.is("the last one that stays", x.weight(6, 6), 0);
        c.of(7, "BAD if there is no such state");
        c.is("removed", x.sum(7), BAD);
        c.is("the last one that stays", x.sum(6), 0);
        c.of(9, "BAD if there is no such state");
        c.is("removed", x.labels(7), BAD);
        c.is("the last one that stays", x.labels(6), 0);
        c.of(11, "BAD if there is no such state");
        c.is("removed", x.reward(7), BAD);
        c.is("the last one that stays", x.reward(6), 0);
        c.of(12, "BAD if there is no such state");
        c.is("removed", x.reaches(7), BAD);
        c.is("the last one that stays", x.reaches(6), 64);
        c.of(13, "BAD if there is no such state");
        c.is("removed", x.component(7), BAD);
        c.is("the last one that stays", x.component(6), 64);
        c.of(16, "BAD if there is no such state");
        c.is("removed", x.classOf(7), BAD);
        c.is("the last one that stays", x.classOf(6), 0);
    }
}
