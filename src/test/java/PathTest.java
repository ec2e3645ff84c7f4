/** Promises 34 to 36: best paths and walks. */
public final class PathTest {
    private static final Due DUE = new Due("PathTest");
    private static final int BAD = ProbabilisticChecker.BAD;
    private static final int NONE = ProbabilisticChecker.NONE;
    private static final int REFUSED = ProbabilisticChecker.REFUSED;

    public static void main(String[] args) {
        bestPath();
        bestPathOfEqualProducts();
        bestPathOfOneProduct();
        bestPathErrors();
        bestProduct();
        walk();
        walkByHand();
        DUE.end();
    }

    private static void isPath(String call, ProbabilisticChecker x, int first, int second, int... states) {
        DUE.is(call + ", length", x.bestPath(first, second, states[0], -1), states.length);
        for (int i = 0; i < states.length; i++) {
            DUE.is(call + ", state " + i, x.bestPath(first, second, states[0], i), states[i]);
        }
        DUE.is(call + ", behind", x.bestPath(first, second, states[0], states.length), NONE);
    }

    /** The direct way to 4 has 1/10; by way of 1 and 2 it is 8/10 of 1 of 1/2. */
    private static ProbabilisticChecker ways() {
        ProbabilisticChecker x = ChainTest.withStates(6);
        x.setWeight(0, 4, 1);
        x.setWeight(0, 1, 8);
        x.setWeight(0, 3, 1);
        x.setWeight(1, 2, 5);
        x.setWeight(2, 4, 3);
        x.setWeight(2, 0, 3);
        x.setWeight(3, 4, 1);
        x.setLabels(4, 1);
        x.setLabels(1, 2);
        x.setLabels(2, 4);
        FormulaTest.add(x, "a");
        FormulaTest.add(x, "t");
        FormulaTest.add(x, "!b");
        FormulaTest.add(x, "(a|c)");
        return x;
    }

    private static void bestPath() {
        ProbabilisticChecker x = ways();
        isPath("34: the long way is better", x, 1, 0, 0, 1, 2, 4);
        isPath("34: not through b, and the fewest states", x, 2, 0, 0, 4);
        isPath("34: it ends at the first state of the second formula", x, 1, 3, 0, 1, 2);
        isPath("34: there already", x, 0, 0, 4);
        isPath("34: the second formula is enough at the start", x, 2, 1, 1);
        DUE.is("34: no path", x.bestPath(1, 0, 5, -1), NONE);
        DUE.is("34: no path", x.bestPath(1, 0, 5, 0), NONE);
        DUE.is("34: no path through b", x.bestPath(2, 0, 1, -1), NONE);
    }

    private static void bestPathOfEqualProducts() {
        ProbabilisticChecker x = ChainTest.withStates(7);
        x.setWeight(0, 1, 1);
        x.setWeight(0, 2, 1);
        x.setWeight(0, 3, 1);
        x.setWeight(1, 4, 1);
        x.setWeight(4, 6, 1);
        x.setWeight(2, 6, 1);
        x.setWeight(3, 6, 1);
        x.setLabels(6, 8);
        FormulaTest.add(x, "d");
        FormulaTest.add(x, "t");
        isPath("34: the fewest states, then the first in order", x, 1, 0, 0, 2, 6);
        x.setWeight(2, 6, 0);
        isPath("34: the fewest states", x, 1, 0, 0, 3, 6);
        x.setWeight(3, 6, 0);
        isPath("34: the last one", x, 1, 0, 0, 1, 4, 6);
        x.setWeight(0, 2, 2);
        x.setWeight(2, 5, 2);
        x.setWeight(2, 2, 2);
        x.setWeight(5, 6, 1);
        isPath("34: 2/4 of 1/2 is the same as 1/4", x, 1, 0, 0, 1, 4, 6);
        x.setWeight(2, 5, 3);
        isPath("34: 2/4 of 3/5 is better", x, 1, 0, 0, 2, 5, 6);
    }

    /** The shorter way is found first, the longer one with the same product later, and the other way round. */
    private static void bestPathOfOneProduct() {
        int[][] ways = {{1, 2, 3}, {3, 1, 2}};
        for (int[] way : ways) {
            ProbabilisticChecker x = ChainTest.withStates(5);
            x.setWeight(0, way[0], 1);
            x.setWeight(0, way[1], 1);
            x.setWeight(way[0], 4, 1);
            x.setWeight(way[1], way[2], 1);
            x.setWeight(way[2], 4, 1);
            x.setLabels(4, 1);
            FormulaTest.add(x, "a");
            FormulaTest.add(x, "t");
            isPath("34: the shorter way", x, 1, 0, 0, way[0], 4);
        }
    }

    private static void bestPathErrors() {
        ProbabilisticChecker x = ways();
        DUE.is("34: first", x.bestPath(4, 0, 0, 0), BAD);
        DUE.is("34: second", x.bestPath(0, -1, 0, 0), BAD);
        DUE.is("34: state", x.bestPath(1, 0, 6, 0), BAD);
        DUE.is("34: state", x.bestPath(1, 0, -1, 0), BAD);
        DUE.is("34: i", x.bestPath(1, 0, 0, -2), BAD);
        DUE.is("34: far", x.bestPath(1, 0, 0, Integer.MAX_VALUE), NONE);
        DUE.is("34: least", x.bestPath(1, 0, 0, Integer.MIN_VALUE), BAD);
        int fine = FormulaTest.add(x, "P>0[B6t,a]");
        DUE.is("34: not refused", x.bestPath(1, fine, 0, -1), 1);
        x.setWeight(1, 1, 2);
        x.setWeight(3, 4, 9);
        x.setWeight(2, 0, 5);
        DUE.is("34: first refused", x.bestPath(fine, 0, 0, 0), REFUSED);
        DUE.is("34: second refused", x.bestPath(0, fine, 0, 0), REFUSED);
        DUE.is("34: REFUSED comes before NONE", x.bestPath(1, fine, 5, 0), REFUSED);
        DUE.is("34: BAD comes before REFUSED", x.bestPath(fine, 0, 0, -2), BAD);
        DUE.is("35: first refused", x.bestProduct(fine, 0, 0, 0), REFUSED);
        DUE.is("35: second refused", x.bestProduct(0, fine, 5, 0), REFUSED);
        DUE.is("35: BAD comes before REFUSED", x.bestProduct(fine, 0, 0, 2), BAD);
    }

    private static void bestProduct() {
        ProbabilisticChecker x = ways();
        DUE.is("35: numerator", x.bestProduct(1, 0, 0, 0), 2);
        DUE.is("35: denominator", x.bestProduct(1, 0, 0, 1), 5);
        DUE.is("35: through !b, numerator", x.bestProduct(2, 0, 0, 0), 1);
        DUE.is("35: through !b, denominator", x.bestProduct(2, 0, 0, 1), 10);
        DUE.is("35: there already", x.bestProduct(1, 0, 4, 0), 1);
        DUE.is("35: there already", x.bestProduct(1, 0, 4, 1), 1);
        DUE.is("35: no path", x.bestProduct(1, 0, 5, 0), NONE);
        DUE.is("35: first", x.bestProduct(4, 0, 0, 0), BAD);
        DUE.is("35: second", x.bestProduct(0, -1, 0, 0), BAD);
        DUE.is("35: state", x.bestProduct(1, 0, 6, 0), BAD);
        DUE.is("35: part", x.bestProduct(1, 0, 0, 2), BAD);
        DUE.is("35: BAD comes before NONE", x.bestProduct(1, 0, 5, -1), BAD);
        ProbabilisticChecker y = ChainTest.withStates(8);
        for (int s = 0; s < 7; s++) {
            y.setWeight(s, s, 9);
            y.setWeight(s, s + 1, 1);
        }
        y.setLabels(7, 1);
        FormulaTest.add(y, "a");
        FormulaTest.add(y, "t");
        DUE.is("35: seven steps of 1/10", y.bestProduct(1, 0, 0, 1), 10000000);
        DUE.is("34: all states", y.bestPath(1, 0, 0, -1), 8);
    }

    private static void walk() {
        ProbabilisticChecker x = ChainTest.withStates(3);
        DUE.is("36: stays without weights", x.walk(1, 100, 7), 1);
        x.setWeight(0, 1, 9);
        x.setWeight(1, 2, 4);
        DUE.is("36: one way only", x.walk(0, 1, 99), 1);
        DUE.is("36: to the end", x.walk(0, 100, -99), 2);
        DUE.is("36: no step", x.walk(0, 0, 5), 0);
        DUE.is("36: 101 steps", x.walk(0, 101, 5), BAD);
        DUE.is("36: -1 steps", x.walk(0, -1, 5), BAD);
        DUE.is("36: state", x.walk(3, 0, 5), BAD);
        DUE.is("36: state", x.walk(-1, 0, 5), BAD);
    }

    /** The same walk, drawn by a table of the ten places of each state. */
    private static void walkByHand() {
        ProbabilisticChecker x = ChainTest.withStates(3);
        int[][] weights = {{1, 2, 3}, {0, 4, 3}, {5, 0, 5}};
        for (int s = 0; s < 3; s++) {
            for (int t = 0; t < 3; t++) {
                x.setWeight(s, t, weights[s][t]);
            }
        }
        String[] places = {"011222", "1111222", "0000022222"};
        int[] seeds = {0, 1, -1, 5, 12345, Integer.MAX_VALUE, Integer.MIN_VALUE, -77};
        for (int seed : seeds) {
            int at = 0;
            int z = seed;
            for (int steps = 0; steps <= 40; steps++) {
                DUE.is("36: seed " + seed + ", steps " + steps, x.walk(0, steps, seed), at);
                z = (int) (z * 1103515245L + 12345L);
                at = places[at].charAt((z >>> 8) % places[at].length()) - '0';
            }
        }
    }
}
