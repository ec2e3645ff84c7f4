/** Promises 26 to 33: probabilities, steady states and expected rewards as fractions. */
public final class ValueTest {
    private static final Due DUE = new Due("ValueTest");
    private static final int BAD = ProbabilisticChecker.BAD;
    private static final int REFUSED = ProbabilisticChecker.REFUSED;
    private static final int INFINITE = ProbabilisticChecker.INFINITE;
    /** The formulas of plain(). */
    private static final int A = 0;
    private static final int B = 1;
    private static final int T = 2;
    private static final int NOT_D = 3;
    private static final int FINE = 4;
    private static final int A_OR_B = 5;

    public static void main(String[] args) {
        next();
        until();
        within();
        withinRefused();
        never();
        surely();
        steady();
        steadyOfComponents();
        share();
        expected();
        greatNumbers();
        deepFormulas();
        DUE.end();
    }

    private static ProbabilisticChecker plain() {
        ProbabilisticChecker x = FormulaTest.gamble();
        String[] texts = {"a", "b", "t", "!d", "P<1[B6t,a]", "(a|b)"};
        for (String text : texts) {
            FormulaTest.add(x, text);
        }
        return x;
    }

    /** Makes the least common multiple of the sums 2520. */
    private static void refine(ProbabilisticChecker x) {
        int[] sums = {5, 7, 8, 9};
        for (int sum : sums) {
            int s = x.addState();
            x.setWeight(s, s, sum);
        }
    }

    private static void isFraction(String call, long top, long bottom, long dueTop, long dueBottom) {
        DUE.is(call + ", numerator", top, dueTop);
        DUE.is(call + ", denominator", bottom, dueBottom);
    }

    private static void next() {
        ProbabilisticChecker x = plain();
        isFraction("26: X a from 0", x.next(A, 0, 0), x.next(A, 0, 1), 1, 2);
        isFraction("26: X b from 0", x.next(B, 0, 0), x.next(B, 0, 1), 0, 1);
        isFraction("26: X !d from 0", x.next(NOT_D, 0, 0), x.next(NOT_D, 0, 1), 2, 3);
        isFraction("26: X a from 2, which stays", x.next(A, 2, 0), x.next(A, 2, 1), 1, 1);
        isFraction("26: X t", x.next(T, 1, 0), x.next(T, 1, 1), 1, 1);
        DUE.is("26: state", x.next(A, 4, 0), BAD);
        DUE.is("26: state", x.next(A, -1, 0), BAD);
        DUE.is("26: part", x.next(A, 0, 2), BAD);
        DUE.is("26: part", x.next(A, 0, -1), BAD);
        DUE.is("26: formula", x.next(6, 0, 0), BAD);
        DUE.is("26: formula", x.next(-1, 0, 0), BAD);
        refine(x);
        DUE.is("26: refused", x.next(FINE, 0, 0), REFUSED);
        DUE.is("26: BAD comes before REFUSED", x.next(FINE, 0, 2), BAD);
        DUE.is("26: others are not refused", x.next(A, 0, 1), 2);
    }

    private static void until() {
        ProbabilisticChecker x = plain();
        isFraction("27: F a from 0", x.until(T, A, 0, 0), x.until(T, A, 0, 1), 3, 4);
        isFraction("27: F a from 1", x.until(T, A, 1, 0), x.until(T, A, 1, 1), 3, 8);
        isFraction("27: F a from 2", x.until(T, A, 2, 0), x.until(T, A, 2, 1), 1, 1);
        isFraction("27: F a from 3", x.until(T, A, 3, 0), x.until(T, A, 3, 1), 0, 1);
        isFraction("27: !d until a from 0", x.until(NOT_D, A, 0, 0), x.until(NOT_D, A, 0, 1), 3, 5);
        isFraction("27: !d until a from 1", x.until(NOT_D, A, 1, 0), x.until(NOT_D, A, 1, 1), 0, 1);
        isFraction("27: !d until t from 1", x.until(NOT_D, T, 1, 0), x.until(NOT_D, T, 1, 1), 1, 1);
        isFraction("27: t until a or b", x.until(T, A_OR_B, 0, 0), x.until(T, A_OR_B, 0, 1), 1, 1);
        isFraction("27: a until a", x.until(A, A, 2, 0), x.until(A, A, 2, 1), 1, 1);
        DUE.is("27: first", x.until(6, A, 0, 0), BAD);
        DUE.is("27: second", x.until(A, 6, 0, 0), BAD);
        DUE.is("27: first", x.until(-1, A, 0, 0), BAD);
        DUE.is("27: second", x.until(A, -1, 0, 0), BAD);
        DUE.is("27: state", x.until(T, A, 4, 0), BAD);
        DUE.is("27: state", x.until(T, A, -1, 0), BAD);
        DUE.is("27: part", x.until(T, A, 0, 2), BAD);
        refine(x);
        DUE.is("27: first refused", x.until(FINE, A, 0, 0), REFUSED);
        DUE.is("27: second refused", x.until(A, FINE, 0, 0), REFUSED);
        DUE.is("27: BAD comes before REFUSED", x.until(FINE, 7, 0, 0), BAD);
        DUE.is("27: others are not refused", x.until(T, A, 1, 1), 8);
    }

    private static void within() {
        ProbabilisticChecker x = plain();
        Oracle.Ratio[] due = withinByHand();
        for (int k = 0; k <= 6; k++) {
            isFraction("28: B" + k, x.within(T, A, k, 0, 0), x.within(T, A, k, 0, 1), due[k].part(0), due[k].part(1));
        }
        isFraction("28: B2", x.within(T, A, 2, 0, 0), x.within(T, A, 2, 0, 1), 7, 12);
        isFraction("28: B1 from 1", x.within(T, A, 1, 1, 0), x.within(T, A, 1, 1, 1), 0, 1);
        isFraction("28: B2 from 1", x.within(T, A, 2, 1, 0), x.within(T, A, 2, 1, 1), 1, 4);
        isFraction("28: B0 where it holds", x.within(A, A, 0, 2, 0), x.within(A, A, 0, 2, 1), 1, 1);
        isFraction("28: !d B6 a from 1", x.within(NOT_D, A, 6, 1, 0), x.within(NOT_D, A, 6, 1, 1), 0, 1);
        isFraction("28: !d B2 a from 0", x.within(NOT_D, A, 2, 0, 0), x.within(NOT_D, A, 2, 0, 1), 7, 12);
        DUE.is("28: steps 7", x.within(T, A, 7, 0, 0), BAD);
        DUE.is("28: steps -1", x.within(T, A, -1, 0, 0), BAD);
        DUE.is("28: first", x.within(6, A, 0, 0, 0), BAD);
        DUE.is("28: second", x.within(T, -1, 0, 0, 0), BAD);
        DUE.is("28: state", x.within(T, A, 0, 4, 0), BAD);
        DUE.is("28: part", x.within(T, A, 0, 0, 2), BAD);
    }

    /** From 0, p(k) = p(k-1) / 6 + q(k-1) / 3 + 1/2; from 1, q(k) = p(k-1) / 2. */
    private static Oracle.Ratio[] withinByHand() {
        Oracle.Ratio[] p = new Oracle.Ratio[7];
        Oracle.Ratio q = Oracle.Ratio.ZERO;
        p[0] = Oracle.Ratio.ZERO;
        for (int k = 1; k <= 6; k++) {
            p[k] = p[k - 1].times(Oracle.Ratio.of(1, 6)).plus(q.times(Oracle.Ratio.of(1, 3)))
                    .plus(Oracle.Ratio.of(1, 2));
            q = p[k - 1].times(Oracle.Ratio.of(1, 2));
        }
        return p;
    }

    private static void withinRefused() {
        ProbabilisticChecker x = plain();
        refine(x);
        DUE.is("28: 2520 to the power 5", x.within(T, A, 5, 0, 0), REFUSED);
        DUE.is("28: BAD comes before REFUSED", x.within(T, A, 6, 8, 0), BAD);
        isFraction("28: 2520 to the power 4", x.within(T, A, 2, 0, 0), x.within(T, A, 4, 4, 1), 7, 1);
        DUE.is("28: first refused", x.within(FINE, A, 0, 0, 0), REFUSED);
        DUE.is("28: second refused", x.within(A, FINE, 0, 0, 0), REFUSED);
        ProbabilisticChecker y = ChainTest.withStates(4);
        FormulaTest.add(y, "t");
        y.setWeight(0, 0, 9);
        y.setWeight(1, 1, 5);
        y.setWeight(2, 2, 7);
        DUE.is("28: 315 to the power 6", y.within(0, 0, 6, 0, 0), 1);
        y.setWeight(3, 3, 2);
        DUE.is("28: 630 to the power 6", y.within(0, 0, 6, 0, 0), REFUSED);
        DUE.is("28: 630 to the power 5", y.within(0, 0, 5, 0, 0), 1);
        y.setWeight(3, 3, 8);
        DUE.is("28: 2520 to the power 5", y.within(0, 0, 5, 0, 0), REFUSED);
        y.setWeight(2, 2, 1);
        y.setWeight(3, 3, 2);
        DUE.is("28: 90 to the power 6", y.within(0, 0, 6, 0, 0), 1);
    }

    private static void never() {
        ProbabilisticChecker x = plain();
        DUE.is("29: F a", x.never(T, A), 8);
        DUE.is("29: F b", x.never(T, B), 4);
        DUE.is("29: !d until b", x.never(NOT_D, B), 7);
        DUE.is("29: F t", x.never(A, T), 0);
        DUE.is("29: first", x.never(6, A), BAD);
        DUE.is("29: second", x.never(A, -1), BAD);
        refine(x);
        DUE.is("29: first refused", x.never(FINE, A), REFUSED);
        DUE.is("29: second refused", x.never(A, FINE), REFUSED);
        DUE.is("29: BAD comes before REFUSED", x.never(FINE, 6), BAD);
        DUE.is("29: more states", x.never(T, A), 248);
    }

    private static void surely() {
        ProbabilisticChecker x = plain();
        DUE.is("30: F a", x.surely(T, A), 4);
        DUE.is("30: F (a|b)", x.surely(T, A_OR_B), 15);
        DUE.is("30: !d until (a|b)", x.surely(NOT_D, A_OR_B), 12);
        DUE.is("30: a until t", x.surely(A, T), 15);
        x.setWeight(2, 3, 1);
        DUE.is("30: F b", x.surely(T, B), 15);
        DUE.is("30: the second formula ends the path", x.surely(T, A), 4);
        DUE.is("30: first", x.surely(6, A), BAD);
        DUE.is("30: second", x.surely(A, -1), BAD);
        refine(x);
        DUE.is("30: first refused", x.surely(FINE, A), REFUSED);
        DUE.is("30: second refused", x.surely(A, FINE), REFUSED);
        DUE.is("30: BAD comes before REFUSED", x.surely(-1, FINE), BAD);
    }

    private static void steady() {
        ProbabilisticChecker x = plain();
        isFraction("31: a from 0", x.steady(A, 0, 0), x.steady(A, 0, 1), 3, 4);
        isFraction("31: a from 1", x.steady(A, 1, 0), x.steady(A, 1, 1), 3, 8);
        isFraction("31: a from 3", x.steady(A, 3, 0), x.steady(A, 3, 1), 0, 1);
        isFraction("31: t", x.steady(T, 0, 0), x.steady(T, 0, 1), 1, 1);
        DUE.is("31: formula", x.steady(6, 0, 0), BAD);
        DUE.is("31: formula", x.steady(-1, 0, 0), BAD);
        DUE.is("31: state", x.steady(A, 4, 0), BAD);
        DUE.is("31: part", x.steady(A, 0, 2), BAD);
        refine(x);
        DUE.is("31: refused", x.steady(FINE, 0, 0), REFUSED);
        DUE.is("31: BAD comes before REFUSED", x.steady(FINE, 8, 0), BAD);
    }

    /** Two rings: 1 and 2 in turns, and 3 and 4 with stays; 0 goes to each of them. */
    private static ProbabilisticChecker rings() {
        ProbabilisticChecker x = ChainTest.withStates(5);
        x.setWeight(0, 0, 5);
        x.setWeight(0, 1, 2);
        x.setWeight(0, 4, 1);
        x.setWeight(1, 2, 3);
        x.setWeight(2, 1, 1);
        x.setWeight(3, 3, 1);
        x.setWeight(3, 4, 2);
        x.setWeight(4, 3, 1);
        x.setWeight(4, 4, 4);
        x.setLabels(1, 1);
        x.setLabels(3, 1);
        FormulaTest.add(x, "a");
        return x;
    }

    /** In the second ring, 3 has the share 3/13: it is left with 2/3, and 4 with 1/5. */
    private static void steadyOfComponents() {
        ProbabilisticChecker x = rings();
        isFraction("31: in turns", x.steady(0, 1, 0), x.steady(0, 1, 1), 1, 2);
        isFraction("31: in turns", x.steady(0, 2, 0), x.steady(0, 2, 1), 1, 2);
        isFraction("31: with stays", x.steady(0, 4, 0), x.steady(0, 4, 1), 3, 13);
        isFraction("31: two thirds of 1/2 and a third of 3/13", x.steady(0, 0, 0), x.steady(0, 0, 1), 16, 39);
    }

    private static void share() {
        ProbabilisticChecker x = rings();
        isFraction("32: transient", x.share(0, 0), x.share(0, 1), 0, 1);
        isFraction("32: 1", x.share(1, 0), x.share(1, 1), 1, 2);
        isFraction("32: 3", x.share(3, 0), x.share(3, 1), 3, 13);
        isFraction("32: 4", x.share(4, 0), x.share(4, 1), 10, 13);
        DUE.is("32: state", x.share(5, 0), BAD);
        DUE.is("32: state", x.share(-1, 0), BAD);
        DUE.is("32: part", x.share(0, 2), BAD);
        DUE.is("32: part", x.share(0, -1), BAD);
        x.addState();
        isFraction("32: sum 0", x.share(5, 0), x.share(5, 1), 1, 1);
        DUE.is("32: no states", new ProbabilisticChecker().share(0, 0), BAD);
    }

    private static void expected() {
        ProbabilisticChecker x = plain();
        isFraction("33: from 0", x.expected(A_OR_B, 0, 0), x.expected(A_OR_B, 0, 1), 5, 1);
        isFraction("33: from 1", x.expected(A_OR_B, 1, 0), x.expected(A_OR_B, 1, 1), 7, 2);
        isFraction("33: where it holds", x.expected(A_OR_B, 2, 0), x.expected(A_OR_B, 2, 1), 0, 1);
        isFraction("33: the reward where it holds does not count", x.expected(T, 0, 0), x.expected(T, 0, 1), 0, 1);
        DUE.is("33: infinite", x.expected(A, 0, 0), INFINITE);
        DUE.is("33: infinite", x.expected(A, 0, 1), INFINITE);
        DUE.is("33: infinite from an end without reward", x.expected(A, 3, 0), INFINITE);
        isFraction("33: not from a itself", x.expected(A, 2, 0), x.expected(A, 2, 1), 0, 1);
        DUE.is("33: BAD comes before INFINITE", x.expected(A, 0, 2), BAD);
        DUE.is("33: formula", x.expected(6, 0, 0), BAD);
        DUE.is("33: formula", x.expected(-1, 0, 0), BAD);
        DUE.is("33: state", x.expected(A, 4, 0), BAD);
        refine(x);
        DUE.is("33: refused", x.expected(FINE, 0, 0), REFUSED);
        DUE.is("33: BAD comes before REFUSED", x.expected(FINE, 8, 0), BAD);
    }

    /** Five formulas inside one another, in every place that takes one, answer like the plain one. */
    private static void deepFormulas() {
        ProbabilisticChecker x = FormulaTest.gamble();
        int deep = FormulaTest.add(x, "!!!!(a|b)");
        int plain = FormulaTest.add(x, "(a|b)");
        int leaf = FormulaTest.add(x, "!!!!!d");
        int notD = FormulaTest.add(x, "!d");
        DUE.is("24: deep", x.holdsIn(deep), 12);
        DUE.is("24: deep leaf", x.holdsIn(leaf), 13);
        for (int s = 0; s < 4; s++) {
            DUE.is("25: deep", x.holds(leaf, s), x.holds(notD, s));
            DUE.is("26: deep", x.next(deep, s, 1), x.next(plain, s, 1));
            DUE.is("27: deep", x.until(leaf, deep, s, 1), x.until(notD, plain, s, 1));
            DUE.is("28: deep", x.within(leaf, deep, 3, s, 1), x.within(notD, plain, 3, s, 1));
            DUE.is("31: deep", x.steady(deep, s, 0), x.steady(plain, s, 0));
            DUE.is("33: deep", x.expected(deep, s, 0), x.expected(plain, s, 0));
            DUE.is("34: deep", x.bestPath(leaf, deep, s, -1), x.bestPath(notD, plain, s, -1));
            DUE.is("35: deep", x.bestProduct(leaf, deep, s, 1), x.bestProduct(notD, plain, s, 1));
        }
        DUE.is("29: deep", x.never(leaf, deep), x.never(notD, plain));
        DUE.is("30: deep", x.surely(leaf, deep), x.surely(notD, plain));
    }

    /** Seven states, each of which goes on by 1 of 10 and back to the first one by 9 of 10. */
    private static void greatNumbers() {
        ProbabilisticChecker x = ChainTest.withStates(8);
        for (int s = 0; s < 7; s++) {
            x.setWeight(s, 0, 9);
            x.setWeight(s, s + 1, 1);
            x.setReward(s, 9);
        }
        x.setLabels(7, 1);
        FormulaTest.add(x, "a");
        FormulaTest.add(x, "t");
        FormulaTest.add(x, "!a");
        isFraction("33: great", x.expected(0, 0, 0), x.expected(0, 0, 1), 99999990, 1);
        isFraction("27: surely", x.until(1, 0, 0, 0), x.until(1, 0, 0, 1), 1, 1);
        isFraction("28: B6", x.within(1, 0, 6, 1, 0), x.within(1, 0, 6, 1, 1), 1, 1000000);
        x.setWeight(7, 0, 1);
        isFraction("32: rare", x.share(7, 0), x.share(7, 1), 1, 11111111);
        isFraction("31: often", x.steady(2, 0, 0), x.steady(2, 0, 1), 11111110, 11111111);
    }
}
