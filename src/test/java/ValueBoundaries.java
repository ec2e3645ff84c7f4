import java.math.BigInteger;

/** The boundaries of the calls that answer fractions and sets: promises 24 to 33, and what is refused. */
final class ValueBoundaries {
    private static final int BAD = ProbabilisticChecker.BAD;
    private static final int REFUSED = ProbabilisticChecker.REFUSED;
    private static final int INFINITE = ProbabilisticChecker.INFINITE;
    private static final int[] NO_FORMULAS = {-1, 3, 4, 5, 6, 7, Integer.MIN_VALUE, Integer.MAX_VALUE};
    private static final int[] NO_PARTS = {-1, 2, 3, 8, Integer.MIN_VALUE, Integer.MAX_VALUE};
    private static final int A = 0;
    private static final int T = 1;
    private static final int FINE = 2;

    private final Clauses c;

    ValueBoundaries(Clauses clauses) {
        c = clauses;
    }

    void run() {
        allMultiples();
        whoseSums();
        refusedParts();
        lowestTerms();
        zeros();
        formulaNumbers();
        parts();
        steps();
        formulasOutOfRange();
        statesOutOfRange();
        noFormulaIsRefused();
        refusedCalls();
        neverAndSurely();
        shares();
        expected();
        deepOnes();
    }

    private static int add(ProbabilisticChecker x, String text) {
        return FormulaTest.add(x, text);
    }

    /** 0 goes to 1 with 2/8 and to 2 with 6/8; 1 has a. Formula 2 has a bounded until that is not refused. */
    private static ProbabilisticChecker plain() {
        ProbabilisticChecker x = ChainTest.withStates(3);
        x.setWeight(0, 1, 2);
        x.setWeight(0, 2, 6);
        x.setLabels(1, 1);
        add(x, "a");
        add(x, "t");
        add(x, "P>0[B6t,a]");
        return x;
    }

    /** With the sums 8, 7 and 9, formula 2 is refused; the values from 0 stay. */
    private static ProbabilisticChecker fine() {
        ProbabilisticChecker x = plain();
        x.setWeight(1, 1, 7);
        x.setWeight(2, 2, 9);
        return x;
    }

    private static void giveSum(ProbabilisticChecker x, int state, int sum) {
        x.setWeight(state, state, Math.min(sum, 9));
        x.setWeight(state, 0, state == 0 ? Math.min(sum, 9) : Math.max(0, sum - 9));
    }

    /** For each least common multiple that there is, and each bound, the power tells. */
    private void allMultiples() {
        c.of(0, "A bounded until is refused if L to the power k is greater than 10 to the power 15, where L is the least "
                + "common multiple of the sums of all states and k the bound");
        int found = 0;
        for (int l = 1; l <= 2520; l++) {
            if (2520 % l != 0) {
                continue;
            }
            found++;
            int[] sums = {gcd(l, 8), gcd(l, 9), gcd(l, 5), gcd(l, 7)};
            for (int k = 0; k <= 6; k++) {
                boolean refused = BigInteger.valueOf(l).pow(k).compareTo(BigInteger.TEN.pow(15)) > 0;
                checkMultiple(sums, l, k, refused);
            }
        }
        c.is("so many multiples of sums", found, 48);
    }

    private void checkMultiple(int[] sums, int l, int k, boolean refused) {
        ProbabilisticChecker x = ChainTest.withStates(4);
        for (int s = 0; s < 4; s++) {
            giveSum(x, s, sums[s]);
        }
        add(x, "t");
        add(x, "P>=1[B" + k + "t,t]");
        String power = l + " to the power " + k;
        c.is("within, " + power, x.within(0, 0, k, 3, 0), refused ? REFUSED : 1);
        c.is("holdsIn, " + power, x.holdsIn(1), refused ? REFUSED : 15);
    }

    private static int gcd(int a, int b) {
        return b == 0 ? a : gcd(b, a % b);
    }

    private void whoseSums() {
        c.of(0, "A bounded until is refused if L to the power k is greater than 10 to the power 15, where L is the least "
                + "common multiple of the sums of all states and k the bound");
        ProbabilisticChecker x = ChainTest.withStates(8);
        add(x, "t");
        c.is("the sums 0 count as 1", x.within(0, 0, 6, 0, 0), 1);
        giveSum(x, 0, 9);
        giveSum(x, 1, 7);
        giveSum(x, 2, 5);
        c.is("315 to the power 6", x.within(0, 0, 6, 0, 0), 1);
        giveSum(x, 7, 8);
        c.is("the last state counts, though no path comes to it", x.within(0, 0, 6, 0, 0), REFUSED);
        c.is("2520 to the power 4", x.within(0, 0, 4, 0, 0), 1);
        c.is("2520 to the power 5", x.within(0, 0, 5, 0, 0), REFUSED);
        x.removeState();
        c.is("it is gone", x.within(0, 0, 6, 0, 0), 1);
        x.undo();
        c.is("it is back", x.within(0, 0, 6, 0, 0), REFUSED);
        giveSum(x, 7, 3);
        c.is("3 is in 9 already", x.within(0, 0, 6, 0, 0), 1);
        x.setWeight(7, 0, 7);
        c.is("10 has a 2", x.within(0, 0, 6, 0, 0), REFUSED);
        c.is("630 to the power 5", x.within(0, 0, 5, 0, 0), 1);
        ProbabilisticChecker y = new ProbabilisticChecker();
        add(y, "P>0[B6t,t]");
        c.is("no states", y.holdsIn(0), 0);
    }

    private void refusedParts() {
        c.of(0, "then so is a formula that contains it");
        String[] refused = {"P>0[B6t,a]", "!P>0[B6t,a]", "!!!!P>0[B6t,a]", "(P>0[B6t,a]&t)", "(t&P>0[B6t,a])",
            "(P>0[B6t,a]|t)", "(t|P>0[B6t,a])", "P>0[XP>0[B6t,a]]", "P>0[FP>0[B6t,a]]", "P>0[GP>0[B6t,a]]",
            "P>0[UP>0[B6t,a],t]", "P>0[Ut,P>0[B6t,a]]", "P>0[B0P>0[B6t,a],t]", "P>0[B0t,P>0[B6t,a]]", "S>0[P>0[B6t,a]]",
            "R>0[P>0[B6t,a]]", "P>0[B6P>0[B0t,a],t]", "P>0[B6t,P>0[B0t,a]]", "(P>0[B6t,a]&P>0[B1t,a])",
            "(P>0[B1t,a]&P>0[B6t,a])", "S>0[S>0[S>0[S>0[P>0[B6t,a]]]]]", "P>0[B6t,t]", "P>0[B6!t,!t]"};
        String[] plain = {"P>0[B5t,a]", "P>0[B5P>0[B5t,a],P>0[B4t,a]]", "(P>0[B5t,a]&P>0[B5t,b])", "P>0[B0t,a]"};
        for (String text : refused) {
            ProbabilisticChecker x = fine();
            x.clearFormulas();
            c.is(text + " is one", add(x, text), 0);
            c.is(text, x.holdsIn(0), REFUSED);
            c.is(text + ", holds", x.holds(0, 2), REFUSED);
            c.is(text + ", depth", x.depth(0) > 0 ? 1 : 0, 1);
            x.setWeight(2, 2, 0);
            c.is(text + ", with 56", x.holdsIn(0) >= 0 ? 1 : 0, 1);
        }
        for (String text : plain) {
            ProbabilisticChecker x = fine();
            x.clearFormulas();
            add(x, text);
            c.is(text, x.holdsIn(0) >= 0 ? 1 : 0, 1);
        }
    }

    private void lowestTerms() {
        c.of(0, "Methods with a parameter part return the numerator for 0 and the denominator for 1 of a fraction in "
                + "lowest terms with a positive denominator");
        ProbabilisticChecker x = plain();
        x.setReward(0, 4);
        c.isFraction("next", x.next(A, 0, 0), x.next(A, 0, 1), 1, 4);
        c.isFraction("until", x.until(T, A, 0, 0), x.until(T, A, 0, 1), 1, 4);
        c.isFraction("within", x.within(T, A, 6, 0, 0), x.within(T, A, 6, 0, 1), 1, 4);
        c.isFraction("within, 0 steps", x.within(T, A, 0, 1, 0), x.within(T, A, 0, 1, 1), 1, 1);
        c.isFraction("steady", x.steady(A, 0, 0), x.steady(A, 0, 1), 1, 4);
        c.isFraction("share", x.share(1, 0), x.share(1, 1), 1, 1);
        c.isFraction("lumped", x.lumped(0, 2, 0), x.lumped(0, 2, 1), 3, 4);
        c.isFraction("bestProduct", x.bestProduct(T, A, 0, 0), x.bestProduct(T, A, 0, 1), 1, 4);
        x.setWeight(2, 1, 4);
        x.setWeight(2, 2, 2);
        x.setReward(2, 4);
        c.isFraction("expected", x.expected(A, 2, 0), x.expected(A, 2, 1), 6, 1);
        c.isFraction("expected", x.expected(A, 0, 0), x.expected(A, 0, 1), 17, 2);
        c.isFraction("until", x.until(T, A, 0, 0), x.until(T, A, 0, 1), 1, 1);
        c.isFraction("within", x.within(T, A, 2, 0, 0), x.within(T, A, 2, 0, 1), 3, 4);
        x.setWeight(1, 2, 8);
        c.isFraction("share", x.share(1, 0), x.share(1, 1), 2, 5);
    }

    private void zeros() {
        c.of(0, "0 is 0 / 1");
        ProbabilisticChecker x = fine();
        c.isFraction("next", x.next(A, 2, 0), x.next(A, 2, 1), 0, 1);
        c.isFraction("until", x.until(T, A, 2, 0), x.until(T, A, 2, 1), 0, 1);
        c.isFraction("within", x.within(T, A, 5, 2, 0), x.within(T, A, 5, 2, 1), 0, 1);
        c.isFraction("within, 0 steps", x.within(T, A, 0, 0, 0), x.within(T, A, 0, 0, 1), 0, 1);
        c.isFraction("steady", x.steady(A, 2, 0), x.steady(A, 2, 1), 0, 1);
        c.isFraction("share", x.share(0, 0), x.share(0, 1), 0, 1);
        c.isFraction("lumped", x.lumped(2, 1, 0), x.lumped(2, 1, 1), 0, 1);
        c.isFraction("expected, there already", x.expected(A, 1, 0), x.expected(A, 1, 1), 0, 1);
        c.isFraction("expected, without rewards", x.expected(T, 0, 0), x.expected(T, 0, 1), 0, 1);
        x.setWeight(0, 2, 0);
        c.isFraction("expected, without rewards", x.expected(A, 0, 0), x.expected(A, 0, 1), 0, 1);
    }

    private void formulaNumbers() {
        c.of(0, "Methods with parameters first and second take the numbers of formulas that were added");
        ProbabilisticChecker x = ChainTest.withStates(1);
        x.setLabels(0, 1);
        String[] texts = {"a", "b", "c", "d", "t", "!t"};
        int[] due = {1, 0, 0, 0, 1, 0};
        c.is("none was added", x.next(0, 0, 0), BAD);
        for (int f = 0; f < 6; f++) {
            c.is("not yet", x.never(0, f), BAD);
            c.is("not yet", x.never(f, 0), BAD);
            add(x, texts[f]);
            c.is("the last one", x.next(f, 0, 0), due[f]);
            c.is("the last one as the second", x.until(f, f, 0, 0), due[f]);
            c.is("the last one as the first", x.surely(f, 0), 1);
        }
        c.is("no seventh one", x.next(6, 0, 0), BAD);
        x.clearFormulas();
        c.is("removed", x.next(0, 0, 0), BAD);
        c.is("removed", x.until(5, 5, 0, 0), BAD);
    }

    /** The calls with a part, by the number of their promise. */
    private static long partOf(ProbabilisticChecker x, int promise, int state, int part) {
        return switch (promise) {
            case 17 -> x.lumped(state, 1, part);
            case 26 -> x.next(A, state, part);
            case 27 -> x.until(T, A, state, part);
            case 28 -> x.within(T, A, 1, state, part);
            case 31 -> x.steady(A, state, part);
            case 32 -> x.share(state, part);
            case 33 -> x.expected(A, state, part);
            default -> x.bestProduct(T, A, state, part);
        };
    }

    private static final int[] WITH_PART = {17, 26, 27, 28, 31, 32, 33, 35};

    private void parts() {
        for (int promise : WITH_PART) {
            c.of(promise, "`part`: 0 for the numerator, 1 for the denominator");
            ProbabilisticChecker x = plain();
            x.setReward(0, 1);
            x.setReward(2, 2);
            x.setWeight(2, 1, 1);
            x.setWeight(2, 2, 2);
            x.setWeight(1, 0, 9);
            long top = partOf(x, promise, 0, 0);
            long bottom = partOf(x, promise, 0, 1);
            c.is("0", top, promise == 27 ? 1 : promise == 31 ? 4 : promise == 32 ? 4 : promise == 33 ? 11 : 1);
            c.is("1", bottom, promise == 27 ? 1 : promise == 31 ? 17 : promise == 32 ? 17 : promise == 33 ? 2 : 4);
            c.of(promise, "BAD if an argument is out of range");
            for (int part : NO_PARTS) {
                c.is("part " + part, partOf(x, promise, 0, part), BAD);
                c.is("part " + part + " and no state", partOf(x, promise, 3, part), BAD);
            }
        }
    }

    private void statesOutOfRange() {
        int[] sizes = {0, 1, 3, 8};
        for (int promise : WITH_PART) {
            c.of(promise, "BAD if an argument is out of range");
            for (int n : sizes) {
                ProbabilisticChecker x = ChainTest.withStates(n);
                add(x, "a");
                add(x, "t");
                for (int s : ChainBoundaries.outside(n)) {
                    c.is("state " + s + " of " + n, partOf(x, promise, s, 0), BAD);
                    c.is("state " + s + " of " + n + ", denominator", partOf(x, promise, s, 1), BAD);
                }
                if (n > 0 && promise != 17) {
                    c.is("the last of " + n, partOf(x, promise, n - 1, 1) == BAD ? 1 : 0, 0);
                    c.is("the first of " + n, partOf(x, promise, 0, 1) == BAD ? 1 : 0, 0);
                }
            }
        }
    }

    private void steps() {
        c.of(28, "`steps`: the greatest number of steps, 0 to 6");
        ProbabilisticChecker x = ChainBoundaries.ring(8);
        x.setLabels(7, 1);
        add(x, "a");
        add(x, "t");
        for (int steps = 0; steps <= 6; steps++) {
            c.is("just so many, " + steps, x.within(T, A, steps, 7 - steps, 0), 1);
            c.is("one too few, " + steps, x.within(T, A, steps, 6 - steps, 0), 0);
        }
        c.is("7", x.within(T, A, 7, 0, 0), BAD);
        c.is("-1", x.within(T, A, -1, 7, 0), BAD);
        c.of(28, "BAD if an argument is out of range");
        int[] wrong = {-1, 7, 8, 9, 10, Integer.MIN_VALUE, Integer.MAX_VALUE};
        for (int steps : wrong) {
            c.is("steps " + steps, x.within(T, T, steps, 0, 0), BAD);
            c.is("steps " + steps + ", denominator", x.within(T, T, steps, 0, 1), BAD);
        }
    }

    private void formulasOutOfRange() {
        ProbabilisticChecker x = plain();
        for (int f : NO_FORMULAS) {
            c.of(26, "BAD if an argument is out of range");
            c.is("first " + f, x.next(f, 0, 0), BAD);
            c.of(27, "BAD if an argument is out of range");
            c.is("first " + f, x.until(f, A, 0, 0), BAD);
            c.is("second " + f, x.until(A, f, 0, 0), BAD);
            c.is("both " + f, x.until(f, f, 0, 0), BAD);
            c.of(28, "BAD if an argument is out of range");
            c.is("first " + f, x.within(f, A, 1, 0, 0), BAD);
            c.is("second " + f, x.within(A, f, 1, 0, 0), BAD);
            c.of(29, "BAD if there is no such formula");
            c.is("first " + f, x.never(f, A), BAD);
            c.is("second " + f, x.never(A, f), BAD);
            c.of(30, "BAD if there is no such formula");
            c.is("first " + f, x.surely(f, A), BAD);
            c.is("second " + f, x.surely(A, f), BAD);
            c.of(31, "BAD if an argument is out of range");
            c.is("first " + f, x.steady(f, 0, 0), BAD);
            c.of(33, "BAD if an argument is out of range");
            c.is("first " + f, x.expected(f, 0, 0), BAD);
            c.of(35, "BAD if an argument is out of range");
            c.is("first " + f, x.bestProduct(f, A, 0, 0), BAD);
            c.is("second " + f, x.bestProduct(A, f, 0, 0), BAD);
        }
    }

    /** Asks call number i of those that can be refused, with one formula as the first and one as the second. */
    private static long ask(ProbabilisticChecker x, int promise, int first, int second) {
        return switch (promise) {
            case 24 -> x.holdsIn(first);
            case 25 -> x.holds(first, 0);
            case 26 -> x.next(first, 0, 0);
            case 27 -> x.until(first, second, 0, 0);
            case 28 -> x.within(first, second, 1, 0, 0);
            case 29 -> x.never(first, second);
            case 30 -> x.surely(first, second);
            case 31 -> x.steady(first, 0, 0);
            case 33 -> x.expected(first, 0, 0);
            case 34 -> x.bestPath(first, second, 0, -1);
            default -> x.bestProduct(first, second, 0, 0);
        };
    }

    private static String refusal(int promise) {
        return switch (promise) {
            case 24, 25 -> "REFUSED if it is refused";
            case 26, 31, 33 -> "REFUSED if the formula is refused";
            case 28 -> "REFUSED if it, or a formula, is refused";
            default -> "REFUSED if a formula is refused";
        };
    }

    private void refusedCalls() {
        int[] promises = {24, 25, 26, 27, 28, 29, 30, 31, 33, 34, 35};
        for (int promise : promises) {
            c.of(promise, refusal(promise));
            ProbabilisticChecker x = fine();
            c.is("the first one", ask(x, promise, FINE, FINE), REFUSED);
            c.is("the first one alone", ask(x, promise, FINE, A), REFUSED);
            boolean hasTwo = promise >= 27 && promise <= 30 || promise >= 34;
            c.is("the second one alone", ask(x, promise, A, FINE) == REFUSED ? 1 : 0, hasTwo ? 1 : 0);
            c.is("none", ask(x, promise, T, A) == REFUSED ? 1 : 0, 0);
            x.setWeight(2, 2, 0);
            c.is("56 to the power 6", ask(x, promise, FINE, FINE) == REFUSED ? 1 : 0, 0);
            x.undo();
            c.is("504 to the power 6", ask(x, promise, FINE, T), REFUSED);
        }
        c.of(28, "REFUSED if it, or a formula, is refused");
        ProbabilisticChecker x = fine();
        c.is("it", x.within(T, A, 6, 0, 0), REFUSED);
        c.is("it is not", x.within(T, A, 5, 0, 1), 4);
        c.is("a formula", x.within(FINE, A, 0, 0, 0), REFUSED);
        c.is("a formula", x.within(T, FINE, 0, 1, 1), REFUSED);
        c.is("the denominator, too", x.within(T, A, 6, 0, 1), REFUSED);
    }

    /** Calls that take no formula are never refused. */
    private void noFormulaIsRefused() {
        c.of(32, "Returns the steady probability, from a state, of being in this state");
        ProbabilisticChecker x = ChainTest.withStates(4);
        for (int s = 0; s < 4; s++) {
            giveSum(x, s, 10 - s);
        }
        x.setWeight(0, 1, 1);
        c.isFraction("with the sums 10, 9, 8 and 7", x.share(3, 0), x.share(3, 1), 1, 1);
        c.isFraction("0 is left for ever", x.share(0, 0), x.share(0, 1), 0, 1);
        c.isFraction("1 is not", x.share(1, 0), x.share(1, 1), 1, 1);
    }

    private void neverAndSurely() {
        c.of(29, "Returns the states from which the probability of U is 0");
        ProbabilisticChecker x = ChainTest.withStates(8);
        for (int s = 0; s < 7; s++) {
            x.setWeight(s, 7, 9);
            x.setWeight(s, s < 5 ? s + 1 : 6, 1);
        }
        x.setWeight(6, 7, 0);
        x.setLabels(6, 1);
        x.setLabels(7, 2);
        int a = add(x, "a");
        int t = add(x, "t");
        int b = add(x, "b");
        int none = add(x, "c");
        c.is("1 of 1000000 is not 0", x.never(t, a), 128);
        c.is("0 from all", x.never(t, none), 255);
        c.is("0 from all but those that are there", x.never(none, a), 191);
        c.is("0 from none", x.never(none, t), 0);
        c.is("no states", noStates().never(0, 0), 0);
        c.of(30, "Returns the states from which the probability of U is 1");
        c.is("all but 1 of 1000000 is not 1", x.surely(t, b), 128);
        c.is("1 from none", x.surely(t, none), 0);
        c.is("1 from those that are there", x.surely(none, a), 64);
        c.is("1 from all", x.surely(none, t), 255);
        c.is("no states", noStates().surely(0, 0), 0);
        x.setWeight(6, 7, 1);
        x.setWeight(6, 6, 9);
        c.is("round and round at first", x.surely(t, b), 255);
        x.setWeight(6, 7, 0);
        x.setWeight(6, 0, 1);
        c.is("and back", x.surely(t, b), 255);
        c.is("what is between must hold", x.surely(b, b), 128);
    }

    private static ProbabilisticChecker noStates() {
        ProbabilisticChecker x = new ProbabilisticChecker();
        add(x, "t");
        return x;
    }

    private void shares() {
        c.of(31, "Returns the steady probability of a formula");
        ProbabilisticChecker x = ChainBoundaries.ring(8);
        x.setLabels(7, 1);
        add(x, "a");
        add(x, "t");
        add(x, "!t");
        for (int s = 0; s < 8; s++) {
            c.isFraction("in turns of eight", x.steady(0, s, 0), x.steady(0, s, 1), 1, 8);
        }
        c.isFraction("all", x.steady(1, 0, 0), x.steady(1, 0, 1), 1, 1);
        c.isFraction("none", x.steady(2, 0, 0), x.steady(2, 0, 1), 0, 1);
        x.setWeight(7, 7, 9);
        c.isFraction("nine tenths of the steps stay", x.steady(0, 0, 0), x.steady(0, 0, 1), 10, 17);
        c.of(32, "Returns the steady probability, from a state, of being in this state");
        c.isFraction("the one that stays", x.share(7, 0), x.share(7, 1), 10, 17);
        c.isFraction("one of the others", x.share(3, 0), x.share(3, 1), 1, 17);
        x.setWeight(7, 0, 0);
        c.isFraction("it stays for ever", x.share(7, 0), x.share(7, 1), 1, 1);
        c.isFraction("the others are left for ever", x.share(6, 0), x.share(6, 1), 0, 1);
        greatShares();
    }

    /** Seven states that come back to 0 with 9 of 10 each, and one before them that never comes back. */
    private void greatShares() {
        c.of(31, "Returns the steady probability of a formula");
        ProbabilisticChecker x = ChainTest.withStates(8);
        for (int s = 1; s < 8; s++) {
            x.setWeight(s, 1, s == 1 ? 9 : s == 7 ? 1 : 9);
            if (s < 7) {
                x.setWeight(s, s + 1, 1);
            }
        }
        x.setWeight(0, 1, 1);
        x.setWeight(0, 0, 9);
        x.setLabels(7, 1);
        x.setLabels(0, 1);
        add(x, "a");
        c.isFraction("1 of 1111111, from without", x.steady(0, 0, 0), x.steady(0, 0, 1), 1, 1111111);
        c.isFraction("1 of 1111111, from within", x.steady(0, 7, 0), x.steady(0, 7, 1), 1, 1111111);
    }

    private void expected() {
        c.of(33, "INFINITE if it is infinite");
        ProbabilisticChecker x = plain();
        c.is("1/4 only", x.expected(A, 0, 0), INFINITE);
        c.is("1/4 only, denominator", x.expected(A, 0, 1), INFINITE);
        c.is("never", x.expected(A, 2, 0), INFINITE);
        c.is("at once", x.expected(A, 1, 0), 0);
        x.setWeight(2, 2, 9);
        c.is("never, with a weight to itself", x.expected(A, 2, 0), INFINITE);
        x.setWeight(2, 1, 1);
        c.is("surely, though late", x.expected(A, 2, 0), 0);
        c.is("surely, though late", x.expected(A, 0, 1), 1);
        x.setLabels(1, 0);
        c.is("it holds nowhere", x.expected(A, 1, 1), INFINITE);
    }

    /** Formulas with five inside one another are looked at down to the last letter, whoever asks. */
    private void deepOnes() {
        c.of(0, "At most 5 formulas of the forms that begin with \"!\", \"(\", \"P\", \"S\" or \"R\" are inside one "
                + "another");
        ProbabilisticChecker x = plain();
        x.clearFormulas();
        int a = add(x, "!!!!(t&a)");
        int t = add(x, "!!!!(t&t)");
        int notA = add(x, "!!!!!a");
        int deep = add(x, "S>=1[S>=1[P>=1[XS>=1[S>=1[a]]]]]");
        c.is("holdsIn", x.holdsIn(a), 2);
        c.is("holdsIn", x.holdsIn(t), 7);
        c.is("holdsIn", x.holdsIn(notA), 5);
        c.is("holdsIn", x.holdsIn(deep), 2);
        c.is("holds", x.holds(a, 1), 1);
        c.is("holds", x.holds(notA, 1), 0);
        c.is("next", x.next(a, 0, 1), 4);
        c.is("until", x.until(t, a, 0, 1), 4);
        c.is("until, the first one", x.until(notA, a, 0, 1), 4);
        c.is("within", x.within(notA, a, 1, 0, 1), 4);
        c.is("never", x.never(t, a), 4);
        c.is("never, the first one", x.never(notA, a), 4);
        c.is("surely", x.surely(t, a), 2);
        c.is("surely, the first one", x.surely(notA, t), 7);
        c.is("steady", x.steady(a, 0, 1), 4);
        c.is("expected", x.expected(t, 0, 0), 0);
        c.is("expected", x.expected(a, 0, 0), INFINITE);
        c.is("bestPath", x.bestPath(notA, a, 0, 1), 1);
        c.is("bestPath", x.bestPath(t, a, 0, -1), 2);
        c.is("bestProduct", x.bestProduct(notA, a, 0, 1), 4);
        c.is("bestProduct", x.bestProduct(t, deep, 0, 1), 4);
    }
}
