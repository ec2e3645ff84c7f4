import java.math.BigInteger;

/** The boundaries of best paths and walks: promises 34 to 36. */
final class PathBoundaries {
    private static final int BAD = ProbabilisticChecker.BAD;
    private static final int NONE = ProbabilisticChecker.NONE;
    private static final int[] NO_FORMULAS = {-1, 2, 3, 5, 6, Integer.MIN_VALUE, Integer.MAX_VALUE};
    private static final int[] SEEDS = {0, 1, -1, 2, 1000, -1000, 12345, 65535, 1 << 30, -(1 << 30), 123456789,
        Integer.MAX_VALUE, Integer.MAX_VALUE - 1, Integer.MIN_VALUE, Integer.MIN_VALUE + 1};
    /** The formulas of every chain here: a where paths end, and t or another one for the states before. */
    private static final int A = 0;
    private static final int T = 1;

    private final Clauses c;

    PathBoundaries(Clauses clauses) {
        c = clauses;
    }

    void run() {
        whichPaths();
        greatest();
        greatestByAHair();
        fewestStates();
        everyNumbering();
        firstInOrder();
        positions();
        noPath();
        wrongArguments();
        products();
        oneStep();
        manySteps();
        eachRest();
        walkRange();
    }

    private static ProbabilisticChecker paths(int n, String before) {
        ProbabilisticChecker x = ChainTest.withStates(n);
        x.setLabels(n - 1, 1);
        FormulaTest.add(x, "a");
        FormulaTest.add(x, before);
        return x;
    }

    private void isPath(String call, ProbabilisticChecker x, int... states) {
        c.is(call + ", length", x.bestPath(T, A, states[0], -1), states.length);
        for (int i = 0; i < states.length; i++) {
            c.is(call + ", position " + i, x.bestPath(T, A, states[0], i), states[i]);
        }
        c.is(call + ", behind", x.bestPath(T, A, states[0], states.length), NONE);
    }

    private void whichPaths() {
        c.of(34, "Among the paths from the state to a state in which the second formula holds, such that the first "
                + "formula holds, and the second one does not, in all states before, it is the one whose product of the "
                + "probabilities of its steps is greatest");
        ProbabilisticChecker x = paths(4, "!b");
        x.setWeight(0, 1, 1);
        x.setWeight(1, 2, 1);
        x.setWeight(2, 3, 1);
        isPath("four states", x, 0, 1, 2, 3);
        isPath("one state", x, 3);
        x.setLabels(3, 3);
        isPath("the first formula need not hold at the end", x, 0, 1, 2, 3);
        isPath("nor where the path is one state", x, 3);
        x.setLabels(2, 2);
        c.is("but before", x.bestPath(T, A, 0, -1), NONE);
        c.is("and at the start", x.bestPath(T, A, 2, -1), NONE);
        x.setLabels(2, 3);
        isPath("it ends where the second one holds first", x, 0, 1, 2);
        x.setWeight(2, 2, 9);
        isPath("and goes on no more", x, 2);
    }

    private void greatest() {
        c.of(34, "Among the paths from the state to a state in which the second formula holds, such that the first "
                + "formula holds, and the second one does not, in all states before, it is the one whose product of the "
                + "probabilities of its steps is greatest");
        ProbabilisticChecker x = paths(4, "t");
        x.setWeight(0, 3, 4);
        x.setWeight(0, 1, 6);
        x.setWeight(1, 3, 5);
        x.setWeight(1, 1, 3);
        isPath("4/10 is more than 6/10 of 5/8", x, 0, 3);
        x.setWeight(1, 3, 7);
        isPath("6/10 of 7/10 is more than 4/10", x, 0, 1, 3);
        x.setWeight(0, 1, 1);
        x.setWeight(0, 3, 1);
        x.setWeight(1, 1, 0);
        x.setWeight(1, 3, 0);
        isPath("the only one", x, 0, 3);
        ProbabilisticChecker y = paths(8, "t");
        for (int s = 0; s < 7; s++) {
            y.setWeight(s, s + 1, 9);
            y.setWeight(s, s < 6 ? 7 : 6, 1);
        }
        isPath("eight states, 9/10 to the power 7, and not 1/10", y, 0, 1, 2, 3, 4, 5, 6, 7);
        c.is("its numerator", y.bestProduct(T, A, 0, 0), 4782969);
        c.is("its denominator", y.bestProduct(T, A, 0, 1), 10000000);
    }

    /** 9/10 to the power 3 is 0.729, and 7/8 of 5/6 is 0.7291666. */
    private void greatestByAHair() {
        c.of(34, "Among the paths from the state to a state in which the second formula holds, such that the first "
                + "formula holds, and the second one does not, in all states before, it is the one whose product of the "
                + "probabilities of its steps is greatest");
        int[][] sides = {{1, 2, 3, 4, 5, 6}, {4, 5, 6, 1, 2, 3}};
        for (int[] s : sides) {
            ProbabilisticChecker x = paths(8, "t");
            x.setWeight(0, s[0], 5);
            x.setWeight(0, s[3], 5);
            int[] ends = {s[1], s[2], 7};
            for (int i = 0; i < 3; i++) {
                x.setWeight(s[i], ends[i], 9);
                x.setWeight(s[i], 0, 1);
            }
            x.setWeight(s[3], s[4], 7);
            x.setWeight(s[3], 0, 1);
            x.setWeight(s[4], s[5], 5);
            x.setWeight(s[4], 0, 1);
            x.setWeight(s[5], 7, 1);
            isPath("35/48 is more than 729/1000", x, 0, s[3], s[4], s[5], 7);
            x.setWeight(s[5], s[5], 1);
            isPath("35/96 is less", x, 0, s[0], s[1], s[2], 7);
        }
    }

    private void fewestStates() {
        c.of(34, "of these, one with the fewest states");
        ProbabilisticChecker x = paths(8, "t");
        x.setWeight(0, 7, 4);
        x.setWeight(0, 1, 6);
        x.setWeight(1, 7, 2);
        x.setWeight(1, 1, 1);
        isPath("6/10 of 2/3 is the same as 4/10", x, 0, 7);
        ProbabilisticChecker y = paths(8, "t");
        y.setWeight(0, 1, 1);
        y.setWeight(0, 6, 1);
        y.setWeight(1, 2, 1);
        y.setWeight(2, 7, 1);
        y.setWeight(6, 7, 1);
        isPath("three states, not four", y, 0, 6, 7);
        y.setWeight(6, 7, 0);
        y.setWeight(6, 3, 1);
        y.setWeight(3, 4, 1);
        y.setWeight(4, 7, 1);
        isPath("four states, not five", y, 0, 1, 2, 7);
        y.setWeight(2, 7, 0);
        y.setWeight(2, 5, 1);
        y.setWeight(5, 7, 1);
        isPath("both have five", y, 0, 1, 2, 5, 7);
    }

    /** A way of three states and one of four with the same product, whatever the numbers of the states. */
    private void everyNumbering() {
        c.of(34, "of these, one with the fewest states");
        for (int code = 0; code < 3125; code++) {
            int[] s = {code % 5, code / 5 % 5, code / 25 % 5, code / 125 % 5, code / 625};
            if ((1 << s[0] | 1 << s[1] | 1 << s[2] | 1 << s[3] | 1 << s[4]) != 31) {
                continue;
            }
            ProbabilisticChecker x = ChainTest.withStates(5);
            FormulaTest.add(x, "a");
            FormulaTest.add(x, "t");
            x.setLabels(s[4], 1);
            x.setWeight(s[0], s[1], 3);
            x.setWeight(s[0], s[2], 3);
            x.setWeight(s[1], s[4], 2);
            x.setWeight(s[2], s[3], 1);
            x.setWeight(s[3], s[4], 5);
            isPath("three states, not four", x, s[0], s[1], s[4]);
            x.setWeight(s[1], s[1], 1);
            isPath("four states with a greater product", x, s[0], s[2], s[3], s[4]);
            x.setWeight(s[3], s[3], 5);
            x.setWeight(s[3], s[4], 4);
            isPath("2/3 is more than 4/9", x, s[0], s[1], s[4]);
        }
    }

    private void firstInOrder() {
        c.of(34, "of these, the lexicographically first one");
        ProbabilisticChecker x = paths(8, "t");
        x.setWeight(0, 1, 1);
        x.setWeight(0, 2, 1);
        x.setWeight(1, 6, 1);
        x.setWeight(2, 3, 1);
        x.setWeight(6, 7, 1);
        x.setWeight(3, 7, 1);
        isPath("the first difference counts, not the later one", x, 0, 1, 6, 7);
        x.setWeight(1, 5, 1);
        x.setWeight(5, 7, 1);
        x.setWeight(2, 2, 1);
        isPath("in the middle", x, 0, 1, 5, 7);
        ProbabilisticChecker y = ChainTest.withStates(8);
        FormulaTest.add(y, "a");
        FormulaTest.add(y, "t");
        for (int s = 0; s < 7; s++) {
            y.setWeight(7, s, 1);
            y.setLabels(s, s % 2);
        }
        isPath("the lowest end", y, 7, 1);
        y.setLabels(0, 1);
        isPath("the lowest of all", y, 7, 0);
        y.setWeight(7, 6, 2);
        y.setLabels(6, 1);
        isPath("greatest comes first", y, 7, 6);
    }

    private void positions() {
        c.of(34, "`i`: the position in the path, from 0, or -1 for the number of its states");
        ProbabilisticChecker x = ChainBoundaries.ring(8);
        x.setLabels(7, 1);
        FormulaTest.add(x, "a");
        FormulaTest.add(x, "t");
        for (int start = 0; start < 8; start++) {
            c.is("-1", x.bestPath(T, A, start, -1), 8 - start);
            c.is("0", x.bestPath(T, A, start, 0), start);
            c.is("the last one", x.bestPath(T, A, start, 7 - start), 7);
            for (int i = 0; i < 8 - start; i++) {
                c.is("position " + i, x.bestPath(T, A, start, i), start + i);
            }
        }
        c.of(34, "Returns the state, or the number of states");
        c.is("eight", x.bestPath(T, A, 0, -1), 8);
        c.is("one", x.bestPath(T, A, 7, -1), 1);
        c.of(34, "NONE if there is no such path or position");
        for (int start = 0; start < 8; start++) {
            c.is("just behind", x.bestPath(T, A, start, 8 - start), NONE);
            c.is("behind", x.bestPath(T, A, start, 9), NONE);
            c.is("far behind", x.bestPath(T, A, start, Integer.MAX_VALUE), NONE);
        }
    }

    private void noPath() {
        c.of(34, "NONE if there is no such path or position");
        ProbabilisticChecker x = paths(3, "t");
        x.setWeight(0, 1, 1);
        x.setWeight(1, 0, 1);
        int[] positions = {-1, 0, 1, 7, Integer.MAX_VALUE};
        for (int i : positions) {
            c.is("round and round, " + i, x.bestPath(T, A, 0, i), NONE);
        }
        x.setLabels(2, 0);
        c.is("the second formula holds nowhere", x.bestPath(T, A, 2, -1), NONE);
        c.of(35, "NONE if there is no such path");
        c.is("the second formula holds nowhere", x.bestProduct(T, A, 2, 0), NONE);
        c.is("the second formula holds nowhere, denominator", x.bestProduct(T, A, 2, 1), NONE);
        x.setLabels(2, 1);
        c.is("round and round", x.bestProduct(T, A, 0, 0), NONE);
        c.is("round and round, denominator", x.bestProduct(T, A, 0, 1), NONE);
        x.setWeight(1, 2, 1);
        c.is("a way out", x.bestProduct(T, A, 0, 0), 1);
        ProbabilisticChecker y = paths(3, "!t");
        y.setWeight(0, 2, 1);
        c.is("the first formula holds nowhere", y.bestProduct(T, A, 0, 0), NONE);
        c.is("no step is needed", y.bestProduct(T, A, 2, 0), 1);
    }

    private void wrongArguments() {
        c.of(34, "BAD if there is no such formula or state, or i is less than -1");
        ProbabilisticChecker x = paths(3, "t");
        int[] wrong = {-2, -3, -8, Integer.MIN_VALUE, Integer.MIN_VALUE + 1};
        for (int i : wrong) {
            c.is("i " + i, x.bestPath(T, A, 2, i), BAD);
            c.is("i without a path " + i, x.bestPath(T, A, 0, i), BAD);
        }
        for (int f : NO_FORMULAS) {
            c.is("first " + f, x.bestPath(f, A, 2, 0), BAD);
            c.is("second " + f, x.bestPath(T, f, 2, 0), BAD);
            c.is("both " + f, x.bestPath(f, f, 2, -1), BAD);
        }
        for (int s : ChainBoundaries.outside(3)) {
            c.is("state " + s, x.bestPath(T, A, s, 0), BAD);
            c.is("state " + s + ", length", x.bestPath(T, A, s, -1), BAD);
        }
        for (int s : ChainBoundaries.outside(8)) {
            c.is("state " + s + " of eight", paths(8, "t").bestPath(T, A, s, 0), BAD);
        }
    }

    private void products() {
        c.of(35, "Returns the product of the probabilities of the steps of the best path for U");
        ProbabilisticChecker x = paths(8, "t");
        for (int s = 0; s < 7; s++) {
            x.setWeight(s, s, 9);
            x.setWeight(s, s + 1, 1);
        }
        int power = 10000000;
        for (int s = 0; s < 8; s++) {
            c.isFraction("from " + s, x.bestProduct(T, A, s, 0), x.bestProduct(T, A, s, 1), 1, power);
            power /= 10;
        }
        ProbabilisticChecker y = ChainBoundaries.ring(8);
        y.setLabels(7, 1);
        FormulaTest.add(y, "a");
        FormulaTest.add(y, "t");
        c.isFraction("seven steps of 1", y.bestProduct(T, A, 0, 0), y.bestProduct(T, A, 0, 1), 1, 1);
        y.setWeight(6, 6, 3);
        y.setWeight(6, 7, 6);
        c.isFraction("in lowest terms", y.bestProduct(T, A, 0, 0), y.bestProduct(T, A, 0, 1), 2, 3);
        y.setWeight(5, 5, 3);
        y.setWeight(5, 6, 3);
        c.isFraction("in lowest terms together", y.bestProduct(T, A, 0, 0), y.bestProduct(T, A, 0, 1), 1, 3);
    }

    /** (z >>> 8) of the document after a number of rounds, in numbers that have no bounds. */
    private static BigInteger drawn(int seed, int rounds) {
        BigInteger z = BigInteger.valueOf(seed);
        for (int i = 0; i < rounds; i++) {
            z = z.multiply(BigInteger.valueOf(1103515245)).add(BigInteger.valueOf(12345));
        }
        // What an int keeps, read without a sign.
        return z.mod(BigInteger.ONE.shiftLeft(32)).shiftRight(8);
    }

    private static int rest(int seed, int rounds, int m) {
        return drawn(seed, rounds).mod(BigInteger.valueOf(m)).intValue();
    }

    /** Eight states with all weights 1: the rest is the state. */
    private static ProbabilisticChecker everywhere() {
        ProbabilisticChecker x = ChainTest.withStates(8);
        for (int from = 0; from < 8; from++) {
            for (int to = 0; to < 8; to++) {
                x.setWeight(from, to, 1);
            }
        }
        return x;
    }

    private void oneStep() {
        c.of(36, "A number z is initially the seed");
        ProbabilisticChecker x = everywhere();
        for (int seed : SEEDS) {
            c.is("no step, seed " + seed, x.walk(3, 0, seed), 3);
            c.is("one step, seed " + seed, x.walk(3, 1, seed), rest(seed, 1, 8));
        }
        // 12345 >>> 8 is 48.
        ProbabilisticChecker y = ChainTest.withStates(8);
        for (int to = 0; to < 7; to++) {
            y.setWeight(0, to, 1);
        }
        c.is("by hand: 48 modulo 7", y.walk(0, 1, 0), 6);
        c.of(36, "`seed`: the seed, any int");
        for (int seed : SEEDS) {
            c.is("it is answered, seed " + seed, y.walk(0, 1, seed), rest(seed, 1, 7));
        }
    }

    private void manySteps() {
        c.of(36, "before each step, it becomes z times 1103515245 plus 12345, in int arithmetic that wraps");
        for (int seed : SEEDS) {
            ProbabilisticChecker x = everywhere();
            for (int steps = 0; steps <= 100; steps++) {
                int due = steps == 0 ? 5 : rest(seed, steps, 8);
                c.is("seed " + seed + ", steps " + steps, x.walk(5, steps, seed), due);
            }
        }
        // 1 comes to 1103527590 and then to more than an int holds, 5 by 5 bits above it.
        ProbabilisticChecker y = everywhere();
        c.is("by hand: 1103527590 >>> 8 is 4310654", y.walk(0, 1, 1), 4310654 % 8);
        c.is("by hand: 2524885223 >>> 8 is 9862832", y.walk(0, 2, 1), 9862832 % 8);
    }

    private void eachRest() {
        c.of(36, "With m as the sum of the state and r as (z >>> 8) modulo m, the step leads to the lowest state such that "
                + "the sum of the weights to it and to all lower states is greater than r");
        int[][] rows = {{0, 3, 0, 0, 4, 0, 0, 3}, {1, 0, 0, 0, 0, 0, 0, 9}, {0, 0, 9, 1, 0, 0, 0, 0}, {0, 0, 0, 0, 0, 0, 0, 1},
            {1, 1, 1, 1, 1, 1, 1, 2}, {0, 0, 0, 2, 0, 1, 0, 0}, {5, 0, 0, 0, 0, 0, 0, 0}};
        for (int[] row : rows) {
            ProbabilisticChecker x = ChainTest.withStates(8);
            int m = 0;
            for (int to = 0; to < 8; to++) {
                x.setWeight(2, to, row[to]);
                m += row[to];
            }
            int seen = 0;
            for (int seed = -60; seed < 60; seed++) {
                int r = rest(seed, 1, m);
                seen |= 1 << r;
                c.is("the rest " + r + " of " + m, x.walk(2, 1, seed), place(row, r));
            }
            c.is("all rests were seen", seen, (1 << m) - 1);
        }
        c.of(36, "from a state with the sum 0, it leads to the state itself");
        for (int s = 0; s < 8; s++) {
            ProbabilisticChecker x = ChainTest.withStates(8);
            c.is("one step", x.walk(s, 1, 17), s);
            c.is("a hundred", x.walk(s, 100, -17), s);
            x.setWeight(7 - s, s, 9);
            c.is("one step to it, and then no more", x.walk(7 - s, 100, 17), s);
        }
    }

    /** The state to which a place in a row of all weights side by side belongs. */
    private static int place(int[] row, int r) {
        StringBuilder places = new StringBuilder();
        for (int to = 0; to < 8; to++) {
            for (int i = 0; i < row[to]; i++) {
                places.append(to);
            }
        }
        return places.charAt(r) - '0';
    }

    private void walkRange() {
        c.of(36, "`steps`: the number of steps, 0 to 100");
        ProbabilisticChecker x = ChainBoundaries.ring(7);
        for (int steps = 0; steps <= 100; steps++) {
            c.is("steps " + steps, x.walk(3, steps, steps), (3 + steps) % 7);
        }
        c.is("101", x.walk(3, 101, 0), BAD);
        c.is("-1", x.walk(3, -1, 0), BAD);
        c.of(36, "BAD if there is no such state or steps is out of range");
        int[] wrong = {-1, 101, 102, 128, Integer.MIN_VALUE, Integer.MAX_VALUE};
        for (int steps : wrong) {
            c.is("steps " + steps, x.walk(0, steps, 0), BAD);
        }
        for (int s : ChainBoundaries.outside(7)) {
            c.is("state " + s, x.walk(s, 0, 0), BAD);
            c.is("state and steps", x.walk(s, 101, 0), BAD);
        }
        for (int s : ChainBoundaries.outside(8)) {
            c.is("state " + s + " of eight", everywhere().walk(s, 1, 0), BAD);
        }
        c.is("no states", new ProbabilisticChecker().walk(0, 0, 0), BAD);
    }
}
