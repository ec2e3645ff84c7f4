/** The boundaries of where formulas hold: the bounds, the sets, and the probabilities that they are compared with. */
final class HoldBoundaries {
    private static final int INFINITE = ProbabilisticChecker.INFINITE;

    private final Clauses c;

    HoldBoundaries(Clauses clauses) {
        c = clauses;
    }

    void run() {
        truth();
        labels();
        notAndPairs();
        bounds();
        infiniteBounds();
        next();
        until();
        within();
        finallyAndGlobally();
        steady();
        expected();
        infinite();
    }

    private static ProbabilisticChecker states(int n) {
        return ChainTest.withStates(n);
    }

    private static int set(ProbabilisticChecker x, String text) {
        x.clearFormulas();
        return x.holdsIn(FormulaTest.add(x, text));
    }

    private void truth() {
        c.of(0, "A formula holds in a set of states: \"t\" in all");
        ProbabilisticChecker x = new ProbabilisticChecker();
        FormulaTest.add(x, "t");
        for (int n = 0; n <= 8; n++) {
            c.is("of " + n, x.holdsIn(0), (1 << n) - 1);
            x.addState();
        }
        x.removeState();
        c.is("one less", x.holdsIn(0), 127);
    }

    private void labels() {
        c.of(0, "a label in those that have it");
        ProbabilisticChecker x = states(8);
        for (int s = 0; s < 8; s++) {
            x.setLabels(s, s + 8);
        }
        c.is("a: the odd ones", set(x, "a"), 0xAA);
        c.is("b", set(x, "b"), 0xCC);
        c.is("c", set(x, "c"), 0xF0);
        c.is("d: all of them", set(x, "d"), 0xFF);
        for (int s = 0; s < 8; s++) {
            x.setLabels(s, s);
        }
        c.is("d: none of them", set(x, "d"), 0);
        x.setLabels(7, 15);
        c.is("d: the last one", set(x, "d"), 128);
        x.removeState();
        c.is("it is gone", set(x, "d"), 0);
        c.is("a, without the last one", set(x, "a"), 0x2A);
    }

    private void notAndPairs() {
        c.of(0, "\"!\" in those in which the formula does not hold");
        for (int n = 0; n <= 8; n++) {
            ProbabilisticChecker x = states(n);
            int all = (1 << n) - 1;
            c.is("no more than there are, of " + n, set(x, "!a"), all);
            c.is("none, of " + n, set(x, "!t"), 0);
            c.is("twice, of " + n, set(x, "!!t"), all);
            c.is("five times, of " + n, set(x, "!!!!!a"), all);
        }
        c.of(0, "\"(\" in those in which both formulas hold, or at least one of them");
        ProbabilisticChecker y = states(4);
        y.setLabels(1, 1);
        y.setLabels(2, 2);
        y.setLabels(3, 3);
        c.is("both", set(y, "(a&b)"), 8);
        c.is("at least one", set(y, "(a|b)"), 14);
        c.is("both, all", set(y, "(t&t)"), 15);
        c.is("both, none", set(y, "(t&c)"), 0);
        c.is("one, none", set(y, "(c|d)"), 0);
        c.is("one, all", set(y, "(c|t)"), 15);
    }

    /** 0 comes to a with 1/2 by a step, and 1 with 1; the reward 3 is expected from 0, and 0 from 1. */
    private static ProbabilisticChecker half() {
        ProbabilisticChecker x = states(3);
        x.setWeight(0, 1, 5);
        x.setWeight(0, 2, 5);
        x.setLabels(1, 1);
        x.setLabels(2, 2);
        x.setReward(0, 3);
        return x;
    }

    private void bounds() {
        c.of(0, "\"P\" in those from which the probability of the way fulfils the bound");
        ProbabilisticChecker x = half();
        Object[] ways = {"P<1/2[Fa]", 4, "P<=1/2[Fa]", 5, "P>1/2[Fa]", 2, "P>=1/2[Fa]", 3, "P<0[Fa]", 0, "P<=0[Fa]", 4,
            "P>0[Fa]", 3, "P>=0[Fa]", 7, "P<1[Fa]", 5, "P<=1[Fa]", 7, "P>1[Fa]", 0, "P>=1[Fa]", 2, "P<49/99[Fa]", 4,
            "P<50/99[Fa]", 5, "P>49/99[Fa]", 3, "P>50/99[Fa]", 2, "P<=49/98[Fa]", 5, "P>=49/98[Fa]", 3, "P<99[Fa]", 7,
            "P>=99[Fa]", 0, "P<=5/05[Ga]", 7, "P>=1[G(a|b)]", 6, "P>=1/2[X(a&t)]", 3, "P>1/2[Ut,a]", 2,
            "P<=1/2[B1t,a]", 5};
        for (int i = 0; i < ways.length; i += 2) {
            c.is((String) ways[i], set(x, (String) ways[i]), (Integer) ways[i + 1]);
        }
        c.of(0, "\"S\" in those from which the steady probability of the formula does");
        Object[] shares = {"S<1/2[a]", 4, "S<=1/2[a]", 5, "S>1/2[a]", 2, "S>=1/2[a]", 3, "S<0[a]", 0, "S<=0[a]", 4,
            "S>0[a]", 3, "S>=0[a]", 7, "S<1[a]", 5, "S<=1[a]", 7, "S>1[a]", 0, "S>=1[a]", 2, "S<50/99[a]", 5,
            "S>49/99[a]", 3, "S>=1[t]", 7, "S<=0[c]", 7};
        for (int i = 0; i < shares.length; i += 2) {
            c.is((String) shares[i], set(x, (String) shares[i]), (Integer) shares[i + 1]);
        }
    }

    private void infiniteBounds() {
        c.of(0, "\"R\" in those from which the expected reward for the formula does, where an infinite one is greater "
                + "than any number");
        ProbabilisticChecker x = half();
        Object[] finite = {"R<3[(a|b)]", 6, "R<=3[(a|b)]", 7, "R>3[(a|b)]", 0, "R>=3[(a|b)]", 1, "R<0[(a|b)]", 0,
            "R<=0[(a|b)]", 6, "R>0[(a|b)]", 1, "R>=0[(a|b)]", 7, "R<97/32[(a|b)]", 7, "R<95/32[(a|b)]", 6,
            "R>95/32[(a|b)]", 1, "R>97/32[(a|b)]", 0, "R<=99/33[(a|b)]", 7};
        for (int i = 0; i < finite.length; i += 2) {
            c.is((String) finite[i], set(x, (String) finite[i]), (Integer) finite[i + 1]);
        }
        Object[] infinite = {"R<99[a]", 2, "R<=99[a]", 2, "R>99[a]", 5, "R>=99[a]", 5, "R<=99/1[a]", 2, "R>99/1[a]", 5,
            "R>0[a]", 5, "R<=0[a]", 2, "R>=0[c]", 7, "R<=99[c]", 0, "!R<99[c]", 7};
        for (int i = 0; i < infinite.length; i += 2) {
            c.is((String) infinite[i], set(x, (String) infinite[i]), (Integer) infinite[i + 1]);
        }
    }

    private void next() {
        c.of(0, "The probability of X is that of a step to a state in which the formula holds");
        ProbabilisticChecker x = half();
        c.is("where it holds now is no matter", set(x, "P<=0[X(b&!a)]"), 2);
        c.is("none", set(x, "P<=0[Xc]"), 7);
        c.is("all", set(x, "P>=1[Xt]"), 7);
        x.setWeight(1, 0, 1);
        c.is("a step away from it", set(x, "P<=0[Xa]"), 6);
    }

    /** A line 0, 1, 2, 3; the labels a on 0 and 1, b on 2, and c on 3. */
    private static ProbabilisticChecker line() {
        ProbabilisticChecker x = states(4);
        for (int s = 0; s < 3; s++) {
            x.setWeight(s, s + 1, 1);
        }
        x.setLabels(0, 1);
        x.setLabels(1, 1);
        x.setLabels(2, 2);
        x.setLabels(3, 4);
        return x;
    }

    private void until() {
        c.of(0, "That of U is the probability that a path from the state comes to a state in which the second formula "
                + "holds, while the first one holds in all states before");
        ProbabilisticChecker x = line();
        c.is("the first one holds before", set(x, "P>=1[Ua,b]"), 7);
        c.is("there at once, though the first one never holds", set(x, "P>=1[Ud,b]"), 4);
        c.is("there at once, with all states", set(x, "P>=1[U!t,t]"), 15);
        c.is("the first one fails in between", set(x, "P<=0[Ua,c]"), 7);
        c.is("the first one fails at the start", set(x, "P>0[Ub,c]"), 12);
        c.is("behind the second one all is over", set(x, "P>=1[U(a|b),b]"), 7);
        c.is("the second one nowhere", set(x, "P<=0[Ut,d]"), 15);
        c.is("the first one in the last state is no matter", set(x, "P>=1[U!c,c]"), 15);
        x.setWeight(1, 0, 9);
        c.is("round and round, but in the end surely", set(x, "P>=1[Ua,b]"), 7);
        x.setWeight(0, 3, 1);
        c.is("a way out", set(x, "P>=1[Ua,b]"), 4);
        c.is("a way out", set(x, "P<=1/11[Ua,b]"), 9);
        c.is("a way out", set(x, "P<=2/11[Ua,b]"), 11);
        c.is("a way out", set(x, "P<2/11[Ua,b]"), 9);
    }

    /** A line of eight states; the last one has a, and the one before it b. */
    private static ProbabilisticChecker longLine() {
        ProbabilisticChecker x = states(8);
        for (int s = 0; s < 7; s++) {
            x.setWeight(s, s + 1, 1);
        }
        x.setLabels(7, 1);
        x.setLabels(6, 2);
        return x;
    }

    private void within() {
        c.of(0, "B is the same with at most as many steps as the digit tells");
        for (int k = 0; k <= 6; k++) {
            ProbabilisticChecker x = longLine();
            int near = (255 << (7 - k)) & 255;
            c.is("at most " + k, set(x, "P>=1[B" + k + "t,a]"), near);
            c.is("and not with fewer, " + k, set(x, "P<=0[B" + k + "t,a]"), 255 - near);
            c.is("the first one fails, " + k, set(x, "P>0[B" + k + "!b,a]"), 128);
            c.is("0 and no less where the first one fails, " + k, set(x, "P>=0[B" + k + "!b,a]"), 255);
            c.is("there at once, " + k, set(x, "P>=1[B" + k + "!t,a]"), 128);
            c.is("not there at once, " + k, set(x, "P<=0[B" + k + "!t,a]"), 127);
        }
        ProbabilisticChecker x = longLine();
        int a = FormulaTest.add(x, "a");
        int notB = FormulaTest.add(x, "!b");
        x.setWeight(6, 6, 1);
        for (int k = 0; k <= 6; k++) {
            c.isFraction("the first one fails", x.within(notB, a, k, 6, 0), x.within(notB, a, k, 6, 1), 0, 1);
            c.isFraction("it fails later on", x.within(notB, a, k, 5, 0), x.within(notB, a, k, 5, 1), 0, 1);
            c.isFraction("there at once", x.within(notB, a, k, 7, 0), x.within(notB, a, k, 7, 1), 1, 1);
        }
    }

    private void finallyAndGlobally() {
        c.of(0, "F is U with \"t\" as the first formula, and G is 1 minus the probability of F with the opposite of the "
                + "formula");
        ProbabilisticChecker x = half();
        c.is("F of what never is", set(x, "P<=0[Fc]"), 7);
        c.is("F of what is", set(x, "P>=1[Ft]"), 7);
        c.is("G of what is", set(x, "P>=1[Gt]"), 7);
        c.is("G of what never is", set(x, "P<=0[Gc]"), 7);
        c.is("G is 0 where it does not hold now", set(x, "P<=0[Ga]"), 5);
        c.is("G is 1 where it stays", set(x, "P>=1[Ga]"), 2);
        c.is("G of one half", set(x, "P>=1/2[G!a]"), 5);
        c.is("G of one half", set(x, "P>1/2[G!a]"), 4);
        c.is("G of one half", set(x, "P<=1/2[G!a]"), 3);
    }

    private void steady() {
        c.of(0, "The steady probability of a formula from a state is the long-run average share of steps after which the "
                + "formula holds");
        for (int n = 1; n <= 8; n++) {
            ProbabilisticChecker x = ChainBoundaries.ring(n);
            x.setLabels(n - 1, 1);
            int all = (1 << n) - 1;
            c.is("in turns of " + n, set(x, "S>=1/" + n + "[a]"), all);
            c.is("in turns of " + n, set(x, "S<=1/" + n + "[a]"), all);
            c.is("in turns of " + n, set(x, "S>1/" + n + "[a]"), 0);
            c.is("all of " + n, set(x, "S>=1[t]"), all);
        }
        ProbabilisticChecker y = line();
        c.is("what is left for ever", set(y, "S<=0[(a|b)]"), 15);
        c.is("what is reached in the end", set(y, "S>=1[c]"), 15);
    }

    private void expected() {
        c.of(0, "The expected reward from a state for a formula is the expected sum of the rewards of the states before "
                + "the first one in which it holds");
        ProbabilisticChecker x = line();
        for (int s = 0; s < 4; s++) {
            x.setReward(s, s + 1);
        }
        int b = FormulaTest.add(x, "b");
        int t = FormulaTest.add(x, "t");
        int last = FormulaTest.add(x, "c");
        c.isFraction("not the reward of the first one", x.expected(b, 0, 0), x.expected(b, 0, 1), 3, 1);
        c.isFraction("the reward of the start", x.expected(b, 1, 0), x.expected(b, 1, 1), 2, 1);
        c.isFraction("none before", x.expected(b, 2, 0), x.expected(b, 2, 1), 0, 1);
        c.isFraction("none before, with all states", x.expected(t, 3, 0), x.expected(t, 3, 1), 0, 1);
        c.isFraction("three before", x.expected(last, 0, 0), x.expected(last, 0, 1), 6, 1);
        x.setWeight(0, 0, 9);
        c.isFraction("ten times", x.expected(last, 0, 0), x.expected(last, 0, 1), 15, 1);
        c.isFraction("not from behind", x.expected(last, 1, 0), x.expected(last, 1, 1), 5, 1);
    }

    private void infinite() {
        c.of(0, "it is infinite if the probability of F is less than 1");
        ProbabilisticChecker x = states(8);
        for (int s = 0; s < 6; s++) {
            x.setWeight(s, s + 1, 1);
            x.setWeight(s, 7, 9);
        }
        x.setLabels(7, 1);
        int a = FormulaTest.add(x, "a");
        c.is("lost with 1 of 1000000", x.expected(a, 0, 0), INFINITE);
        c.is("the denominator, too", x.expected(a, 0, 1), INFINITE);
        c.is("lost already, without any reward", x.expected(a, 6, 0), INFINITE);
        c.isFraction("there already", x.expected(a, 7, 0), x.expected(a, 7, 1), 0, 1);
        x.setWeight(6, 7, 1);
        c.isFraction("the probability is 1, without any reward", x.expected(a, 0, 0), x.expected(a, 0, 1), 0, 1);
        x.setReward(6, 9);
        c.isFraction("the probability is 1", x.expected(a, 0, 0), x.expected(a, 0, 1), 9, 1000000);
        x.setReward(7, 9);
        x.setWeight(6, 6, 9);
        c.isFraction("the probability is 1", x.expected(a, 0, 0), x.expected(a, 0, 1), 9, 100000);
    }
}
