/** The boundaries of changes and errors: what can be undone, snapshots, and calls that change nothing. */
final class ChangeBoundaries {
    private static final int BAD = ProbabilisticChecker.BAD;
    private static final int NONE = ProbabilisticChecker.NONE;
    private static final int FULL = ProbabilisticChecker.FULL;
    private static final int REFUSED = ProbabilisticChecker.REFUSED;
    private static final int INFINITE = ProbabilisticChecker.INFINITE;
    private static final int MIN = Integer.MIN_VALUE;
    private static final int MAX = Integer.MAX_VALUE;

    private final Clauses c;

    ChangeBoundaries(Clauses clauses) {
        c = clauses;
    }

    void run() {
        sixChanges();
        noChanges();
        samenessIsAChange();
        eightChanges();
        forgotten();
        roundAndRound();
        formulasStay();
        firstCode();
        errorsChangeNothing();
        fullOnesChangeNothing();
        constants();
        save();
        restore();
        undo();
        lastCall();
    }

    private static ProbabilisticChecker states(int n) {
        return ChainTest.withStates(n);
    }

    private void sixChanges() {
        c.of(0, "The changes are the calls of addState, setWeight, setLabels, setReward, removeState and restore that "
                + "return no error code");
        ProbabilisticChecker x = new ProbabilisticChecker();
        x.save();
        x.addState();
        x.setWeight(0, 0, 1);
        x.setLabels(0, 2);
        x.setReward(0, 3);
        x.removeState();
        x.restore();
        for (int left = 5; left >= 0; left--) {
            c.is("six of them", x.undo(), left);
        }
        c.is("six of them", x.undo(), NONE);
        c.is("addState", countAfter(1), 1);
        c.is("removeState", countAfter(2), 1);
        c.is("setWeight", countAfter(3), 1);
        c.is("setLabels", countAfter(4), 1);
        c.is("setReward", countAfter(5), 1);
        c.is("restore", countAfter(6), 1);
    }

    /** How many changes can be undone after one call of a kind, beside the one that made its state. */
    private static int countAfter(int kind) {
        ProbabilisticChecker x = states(1);
        x.save();
        switch (kind) {
            case 1 -> x.addState();
            case 2 -> x.removeState();
            case 3 -> x.setWeight(0, 0, 1);
            case 4 -> x.setLabels(0, 1);
            case 5 -> x.setReward(0, 1);
            case 6 -> x.restore();
            case 7 -> x.save();
            case 8 -> x.feed('a');
            case 9 -> FormulaTest.add(x, "a");
            case 10 -> x.clearFormulas();
            case 11 -> x.walk(0, 100, 5);
            case 12 -> x.setWeight(0, 0, 10);
            case 13 -> x.setWeight(0, 1, 1);
            case 14 -> x.setLabels(0, 16);
            case 15 -> x.setReward(0, 10);
            default -> x.classCount();
        }
        return x.undo();
    }

    private void noChanges() {
        c.of(0, "The changes are the calls of addState, setWeight, setLabels, setReward, removeState and restore that "
                + "return no error code");
        for (int kind = 7; kind <= 16; kind++) {
            c.is("no change, kind " + kind, countAfter(kind), 0);
        }
        ProbabilisticChecker x = new ProbabilisticChecker();
        x.removeState();
        x.restore();
        x.addFormula();
        c.is("errors without states", x.undo(), NONE);
        ProbabilisticChecker y = states(8);
        y.addState();
        y.setWeight(0, 0, 9);
        y.setWeight(0, 1, 2);
        c.is("FULL twice", y.undo(), 7);
        c.is("the weight was undone", y.sum(0), 0);
        c.is("eight states", y.stateCount(), 8);
        c.is("undo itself is none", y.undo(), 6);
    }

    private void samenessIsAChange() {
        c.of(0, "Calls that leave everything as it was are changes, too");
        ProbabilisticChecker x = states(1);
        x.save();
        c.is("setWeight", x.setWeight(0, 0, 0), 0);
        c.is("setLabels", x.setLabels(0, 0), 0);
        c.is("setReward", x.setReward(0, 0), 0);
        c.is("restore", x.restore(), 1);
        for (int left = 4; left >= 1; left--) {
            c.is("each of them", x.undo(), left);
            c.is("nothing is different", x.stateCount(), 1);
        }
        c.is("addState", x.undo(), 0);
        c.is("addState", x.stateCount(), 0);
        ProbabilisticChecker y = states(1);
        y.setReward(0, 5);
        for (int i = 0; i < 8; i++) {
            y.setLabels(0, 0);
        }
        for (int left = 7; left >= 0; left--) {
            c.is("they push out older ones, too", y.undo(), left);
        }
        c.is("they push out older ones, too", y.reward(0), 5);
    }

    private void eightChanges() {
        c.of(0, "At most 8 changes can be undone, the latest first");
        ProbabilisticChecker x = states(8);
        for (int left = 7; left >= 0; left--) {
            c.is("eight", x.undo(), left);
            c.is("the latest first", x.stateCount(), left);
        }
        c.is("no ninth one", x.undo(), NONE);
        ProbabilisticChecker y = states(7);
        c.is("seven", y.undo(), 6);
        ProbabilisticChecker z = states(8);
        z.removeState();
        c.is("nine", z.undo(), 7);
        c.is("the latest one is not forgotten", z.stateCount(), 8);
    }

    private void forgotten() {
        c.of(0, "older ones are forgotten");
        for (int more = 1; more <= 20; more++) {
            ProbabilisticChecker x = states(1);
            for (int i = 1; i <= 7 + more; i++) {
                x.setReward(0, i % 10);
            }
            for (int left = 7; left >= 0; left--) {
                c.is("of " + (8 + more), x.undo(), left);
            }
            c.is("the oldest that is known, of " + (8 + more), x.reward(0), (more - 1) % 10);
            c.is("no more, of " + (8 + more), x.undo(), NONE);
            c.is("the state stays", x.stateCount(), 1);
        }
    }

    /** Changes and undos in turns, so that the latest and the oldest meet in every place. */
    private void roundAndRound() {
        c.of(39, "Undoes the latest change that was not undone");
        ProbabilisticChecker x = states(1);
        int[] past = new int[200];
        int top = 0;
        int known = 1;
        for (int i = 0; i < 100; i++) {
            int value = i * 7 % 10;
            x.setReward(0, value);
            top++;
            past[top] = value;
            known = Math.min(8, known + 1);
            if (i % 3 == 2) {
                for (int k = 0; k < i % 5 && known > 1; k++) {
                    top--;
                    known--;
                    c.is("change " + i, x.undo(), known);
                    c.is("change " + i, x.reward(0), past[top]);
                }
            }
        }
        c.is("an undone one is not done again", x.undo(), known - 1);
        c.is("an undone one is not done again", x.reward(0), past[top - 1]);
    }

    private void formulasStay() {
        c.of(0, "Formulas are not affected");
        ProbabilisticChecker x = states(2);
        x.save();
        FormulaTest.add(x, "a");
        x.setLabels(1, 1);
        FormulaTest.add(x, "(a|b)");
        x.feed('!');
        x.undo();
        c.is("undo leaves those that came later", x.formulaCount(), 2);
        c.is("they look at the chain as it is", x.holdsIn(1), 0);
        x.setLabels(0, 2);
        x.clearFormulas();
        x.undo();
        c.is("undo brings none back", x.formulaCount(), 0);
        x.feed('b');
        x.restore();
        c.is("restore leaves the buffer", x.feed('d'), 3);
        c.is("undo too", x.undo(), 2);
        c.is("two letters are too many", x.addFormula(), -102);
    }

    private void firstCode() {
        c.of(0, "If several error codes are possible, the one that is mentioned first is returned");
        ProbabilisticChecker x = states(8);
        x.setWeight(0, 0, 9);
        c.is("5: BAD, FULL", x.setWeight(0, 1, 10), BAD);
        c.is("5: BAD, FULL", x.setWeight(0, 8, 9), BAD);
        c.is("5: BAD, FULL", x.setWeight(0, -1, 2), BAD);
        for (int i = 0; i < 50; i++) {
            x.feed('!');
        }
        c.is("18: BAD, FULL", x.feed(32), BAD);
        c.is("18: BAD, FULL", x.feed(127), BAD);
        c.is("18: FULL", x.feed(126), FULL);
        c.is("19: a sixth one inside", x.addFormula(), -105);
        FormulaTest.add(x, "P>0[B6t,a]");
        for (int i = 0; i < 5; i++) {
            FormulaTest.add(x, "a");
        }
        c.is("19: an error position, FULL", FormulaTest.add(x, "a!"), -101);
        c.is("19: an error position of 0, FULL", x.addFormula(), -100);
        c.is("19: FULL", FormulaTest.add(x, "a"), FULL);
        c.is("22: BAD, NONE", x.letter(6, 1), BAD);
        c.is("22: BAD, NONE", x.letter(-1, -1), BAD);
        c.is("22: NONE", x.letter(5, 1), NONE);
        c.is("33: BAD, INFINITE", x.expected(1, 0, 2), BAD);
        c.is("33: BAD, INFINITE", x.expected(1, 8, 0), BAD);
        c.is("33: INFINITE", x.expected(1, 0, 1), INFINITE);
        c.is("34: BAD, NONE", x.bestPath(1, 1, 0, -2), BAD);
        c.is("34: BAD, NONE", x.bestPath(1, 6, 0, 0), BAD);
        c.is("34: NONE", x.bestPath(1, 1, 0, -1), NONE);
        c.is("35: BAD, NONE", x.bestProduct(1, 1, 0, 2), BAD);
        c.is("35: NONE", x.bestProduct(1, 1, 0, 1), NONE);
        x.setWeight(1, 1, 8);
        x.setWeight(2, 2, 7);
        refusedAndBad(x);
    }

    /** Formula 0 is refused, 1 to 5 are not; the chain has eight states. */
    private void refusedAndBad(ProbabilisticChecker x) {
        c.is("24: REFUSED", x.holdsIn(0), REFUSED);
        c.is("25: BAD, REFUSED", x.holds(0, 8), BAD);
        c.is("26: BAD, REFUSED", x.next(0, 8, 0), BAD);
        c.is("26: BAD, REFUSED", x.next(0, 0, 2), BAD);
        c.is("27: BAD, REFUSED", x.until(0, 6, 0, 0), BAD);
        c.is("27: BAD, REFUSED", x.until(6, 0, 0, 0), BAD);
        c.is("27: BAD, REFUSED", x.until(0, 1, -1, 0), BAD);
        c.is("27: BAD, REFUSED", x.until(1, 0, 0, -1), BAD);
        c.is("28: BAD, REFUSED", x.within(1, 1, 7, 0, 0), BAD);
        c.is("28: BAD, REFUSED", x.within(0, 1, -1, 0, 0), BAD);
        c.is("28: BAD, REFUSED", x.within(1, 1, 6, 8, 0), BAD);
        c.is("28: BAD, REFUSED", x.within(1, 1, 6, 0, 2), BAD);
        c.is("28: BAD, REFUSED", x.within(6, 0, 6, 0, 0), BAD);
        c.is("28: BAD, REFUSED", x.within(0, 6, 6, 0, 0), BAD);
        c.is("28: REFUSED", x.within(1, 1, 6, 0, 0), REFUSED);
        c.is("29: BAD, REFUSED", x.never(0, 6), BAD);
        c.is("29: BAD, REFUSED", x.never(6, 0), BAD);
        c.is("30: BAD, REFUSED", x.surely(0, -1), BAD);
        c.is("30: BAD, REFUSED", x.surely(-1, 0), BAD);
        c.is("31: BAD, REFUSED", x.steady(0, 8, 0), BAD);
        c.is("31: BAD, REFUSED", x.steady(0, 0, 3), BAD);
        c.is("33: BAD, REFUSED", x.expected(0, -1, 0), BAD);
        c.is("33: BAD, REFUSED", x.expected(0, 0, -1), BAD);
        c.is("34: BAD, REFUSED", x.bestPath(0, 1, 0, -2), BAD);
        c.is("34: BAD, REFUSED", x.bestPath(0, 1, 8, 0), BAD);
        c.is("34: BAD, REFUSED", x.bestPath(0, 6, 0, 0), BAD);
        c.is("34: REFUSED, NONE", x.bestPath(0, 1, 0, 0), REFUSED);
        c.is("34: REFUSED, NONE", x.bestPath(1, 0, 0, MAX), REFUSED);
        c.is("35: BAD, REFUSED", x.bestProduct(0, 1, 0, 2), BAD);
        c.is("35: BAD, REFUSED", x.bestProduct(1, 0, 8, 0), BAD);
        c.is("35: REFUSED, NONE", x.bestProduct(0, 1, 0, 0), REFUSED);
        c.is("35: REFUSED, NONE", x.bestProduct(1, 0, 0, 0), REFUSED);
    }

    /** Three states, a snapshot that differs, a refused formula and a plain one, and two letters in the buffer. */
    private static ProbabilisticChecker busy() {
        ProbabilisticChecker x = states(2);
        x.setReward(1, 4);
        x.setWeight(0, 1, 7);
        x.save();
        x.addState();
        x.setWeight(0, 0, 2);
        x.setWeight(1, 1, 8);
        x.setWeight(2, 2, 5);
        x.setLabels(2, 9);
        FormulaTest.add(x, "P>0[B6t,a]");
        FormulaTest.add(x, "!a");
        x.feed('(');
        x.feed('a');
        return x;
    }

    /** Everything that can be seen of an object, and of what undo and restore bring back. */
    private static String trace(ProbabilisticChecker x) {
        StringBuilder out = new StringBuilder();
        chain(x, out);
        for (int f = 0; f <= x.formulaCount(); f++) {
            out.append(" f").append(x.letter(f, 0)).append(',').append(x.holdsIn(f)).append(',').append(x.depth(f));
        }
        out.append(" buffer ").append(x.feed('&')).append(',').append(x.addFormula());
        for (int i = 0; i < 9; i++) {
            out.append(" undo ").append(x.undo());
            chain(x, out);
        }
        out.append(" restore ").append(x.restore());
        chain(x, out);
        return out.toString();
    }

    private static void chain(ProbabilisticChecker x, StringBuilder out) {
        int n = x.stateCount();
        out.append(" n").append(n);
        for (int s = 0; s < n; s++) {
            out.append(' ').append(x.sum(s)).append(',').append(x.labels(s)).append(',').append(x.reward(s));
            for (int t = 0; t < n && n <= 3; t++) {
                out.append(',').append(x.weight(s, t));
            }
        }
    }

    private static final int WRONG_CALLS = 68;

    /** A call that returns an error code on a busy object; the last ones are those that can change something. */
    private static long wrong(ProbabilisticChecker x, int i) {
        return switch (i) {
            case 0 -> x.setWeight(-1, 0, 1);
            case 1 -> x.setWeight(3, 0, 1);
            case 2 -> x.setWeight(0, -1, 1);
            case 3 -> x.setWeight(0, 3, 1);
            case 4 -> x.setWeight(0, 2, -1);
            case 5 -> x.setWeight(0, 2, 10);
            case 6 -> x.setWeight(0, 2, 2);
            case 7 -> x.setWeight(0, 0, 4);
            case 8 -> x.setWeight(MIN, MAX, MAX);
            case 9 -> x.weight(0, 3);
            case 10 -> x.weight(3, 0);
            case 11 -> x.sum(3);
            case 12 -> x.setLabels(3, 1);
            case 13 -> x.setLabels(-1, 1);
            case 14 -> x.setLabels(1, 16);
            case 15 -> x.setLabels(1, -1);
            case 16 -> x.labels(3);
            case 17 -> x.setReward(3, 1);
            case 18 -> x.setReward(-1, 1);
            case 19 -> x.setReward(1, 10);
            case 20 -> x.setReward(1, -1);
            case 21 -> x.reward(3);
            case 22 -> x.reaches(3);
            case 23 -> x.component(3);
            case 24 -> x.classOf(3);
            case 25 -> x.lumped(3, 0, 0);
            case 26 -> x.lumped(0, 8, 0);
            case 27 -> x.lumped(0, 0, 2);
            case 28 -> x.feed(32);
            case 29 -> x.feed(127);
            case 30 -> x.feed('a' + 65536);
            case 31 -> x.feed(MIN);
            case 32 -> x.letter(2, 0);
            case 33 -> x.letter(1, 2);
            case 34 -> x.depth(2);
            case 35 -> x.holdsIn(2);
            case 36 -> x.holdsIn(0);
            case 37 -> x.holds(1, 3);
            case 38 -> x.holds(0, 0);
            case 39 -> x.next(0, 0, 0);
            default -> wrongValue(x, i);
        };
    }

    private static long wrongValue(ProbabilisticChecker x, int i) {
        return switch (i) {
            case 40 -> x.next(1, 3, 0);
            case 41 -> x.until(0, 1, 0, 0);
            case 42 -> x.until(1, 1, 0, 2);
            case 43 -> x.within(1, 1, 7, 0, 0);
            case 44 -> x.within(1, 1, -1, 0, 0);
            case 45 -> x.within(1, 1, 6, 0, 0);
            case 46 -> x.within(0, 1, 0, 0, 0);
            case 47 -> x.never(2, 1);
            case 48 -> x.never(1, 0);
            case 49 -> x.surely(1, -1);
            case 50 -> x.surely(0, 1);
            case 51 -> x.steady(0, 0, 0);
            case 52 -> x.steady(1, 0, 2);
            case 53 -> x.share(3, 0);
            case 54 -> x.share(0, -1);
            case 55 -> x.expected(0, 0, 0);
            case 56 -> x.expected(1, 2, 0);
            case 57 -> x.expected(2, 0, 0);
            case 58 -> x.bestPath(1, 1, 0, -2);
            case 59 -> x.bestPath(1, 1, 0, 1);
            case 60 -> x.bestPath(1, 1, 2, 0);
            case 61 -> x.bestPath(0, 1, 0, 0);
            case 62 -> x.bestProduct(1, 1, 2, 0);
            case 63 -> x.bestProduct(1, 0, 0, 0);
            case 64 -> x.walk(0, 101, 1);
            case 65 -> x.walk(0, -1, 1);
            case 66 -> x.walk(3, 0, 1);
            default -> x.bestProduct(1, 1, 0, 2);
        };
    }

    private void errorsChangeNothing() {
        c.of(0, "A call that returns an error code changes nothing, unless its description says otherwise");
        String due = trace(busy());
        for (int i = 0; i < WRONG_CALLS; i++) {
            ProbabilisticChecker x = busy();
            long code = wrong(x, i);
            c.holds("wrong call " + i + " answered " + code, code >= INFINITE && code <= BAD);
            c.holds("after wrong call " + i, trace(x).equals(due));
        }
        ProbabilisticChecker x = new ProbabilisticChecker();
        x.removeState();
        x.restore();
        x.undo();
        c.holds("without states", trace(x).equals(trace(new ProbabilisticChecker())));
        ProbabilisticChecker y = busy();
        y.addFormula();
        c.is("the description of addFormula says otherwise", y.feed('a'), 1);
    }

    private void fullOnesChangeNothing() {
        c.of(0, "A call that returns an error code changes nothing, unless its description says otherwise");
        ProbabilisticChecker x = states(8);
        c.is("a ninth state", x.addState(), FULL);
        c.holds("after a ninth state", trace(x).equals(trace(states(8))));
        ProbabilisticChecker y = new ProbabilisticChecker();
        for (int i = 0; i < 49; i++) {
            y.feed('a');
        }
        c.is("the fiftieth letter", y.feed('b'), 50);
        c.is("one more", y.feed('c'), FULL);
        c.is("one more", y.feed('c'), FULL);
        c.is("the text is as it was", y.addFormula(), -101);
        ProbabilisticChecker z = new ProbabilisticChecker();
        for (int i = 0; i < 6; i++) {
            FormulaTest.add(z, "abcdt!".charAt(i) == '!' ? "!a" : "abcdt!".substring(i, i + 1));
        }
        c.is("a seventh formula", FormulaTest.add(z, "!b"), FULL);
        for (int i = 0; i < 6; i++) {
            c.is("those that are there", z.letter(i, 0), "abcdt!".charAt(i));
        }
        c.is("not the last one", z.letter(5, 1), 'a');
        c.is("six", z.formulaCount(), 6);
    }

    private void constants() {
        c.of(0, "`BAD = -1`: An argument is not as described");
        c.is("the constant", BAD, -1);
        c.is("the answer", new ProbabilisticChecker().sum(0), -1);
        c.of(0, "`NONE = -2`: There is nothing to return or to do");
        c.is("the constant", NONE, -2);
        c.is("the answer", new ProbabilisticChecker().undo(), -2);
        c.of(0, "`FULL = -3`: A capacity would be exceeded");
        c.is("the constant", FULL, -3);
        c.is("the answer", states(8).addState(), -3);
        c.of(0, "`REFUSED = -4`: A bounded until is refused");
        c.is("the constant", REFUSED, -4);
        ProbabilisticChecker x = busy();
        c.is("the answer", x.holdsIn(0), -4);
        c.of(0, "`INFINITE = -5`: An expected reward is infinite");
        c.is("the constant", INFINITE, -5);
        c.is("the answer", x.expected(1, 2, 0), -5);
    }

    private void save() {
        c.of(37, "Saves the chain, in place of an earlier snapshot");
        ProbabilisticChecker x = states(8);
        x.setWeight(7, 7, 9);
        x.setLabels(7, 15);
        x.setReward(7, 9);
        x.save();
        x.setWeight(7, 7, 1);
        x.setLabels(7, 1);
        x.setReward(7, 1);
        x.restore();
        c.is("weights", x.weight(7, 7), 9);
        c.is("labels", x.labels(7), 15);
        c.is("rewards", x.reward(7), 9);
        x.removeState();
        x.save();
        x.addState();
        x.restore();
        c.is("in place of the earlier one", x.stateCount(), 7);
        x.setReward(6, 3);
        x.restore();
        c.is("a snapshot is a copy", x.reward(6), 0);
        x.setReward(6, 4);
        x.save();
        x.undo();
        c.is("undo goes on behind it", x.reward(6), 0);
        x.restore();
        c.is("undo leaves the snapshot", x.reward(6), 4);
        c.of(37, "Returns the number of states");
        ProbabilisticChecker y = new ProbabilisticChecker();
        for (int n = 0; n <= 8; n++) {
            c.is("of the chain", y.save(), n);
            y.addState();
        }
    }

    private void restore() {
        c.of(38, "Restores the snapshot, which is kept");
        ProbabilisticChecker x = states(3);
        x.setWeight(0, 1, 5);
        x.save();
        for (int i = 0; i < 10; i++) {
            x.setWeight(0, 1, i);
            x.addState();
            c.is("again and again", x.restore(), 3);
            c.is("again and again", x.weight(0, 1), 5);
        }
        x.undo();
        c.is("undone", x.stateCount(), 4);
        c.is("kept behind undo", x.restore(), 3);
        for (int i = 0; i < 3; i++) {
            x.removeState();
        }
        c.is("kept without states", x.restore(), 3);
        c.is("with its weights", x.weight(0, 1), 5);
        c.of(38, "Returns the number of states");
        ProbabilisticChecker y = new ProbabilisticChecker();
        y.save();
        for (int n = 0; n < 8; n++) {
            y.addState();
        }
        c.is("none", y.restore(), 0);
        c.is("none are there", y.stateCount(), 0);
        c.is("the error code is for no snapshot alone", y.restore(), 0);
        ProbabilisticChecker z = states(8);
        z.save();
        z.removeState();
        c.is("eight", z.restore(), 8);
        c.is("and no more", z.addState(), FULL);
        c.of(38, "NONE if there is no snapshot");
        c.is("a new one", new ProbabilisticChecker().restore(), NONE);
        ProbabilisticChecker u = states(2);
        c.is("with states", u.restore(), NONE);
        c.is("they stay", u.stateCount(), 2);
        c.is("no change", u.undo(), 1);
        c.is("undo makes none", u.restore(), NONE);
    }

    private void undo() {
        c.of(39, "Returns the number of changes that can still be undone");
        for (int n = 1; n <= 12; n++) {
            ProbabilisticChecker x = states(1);
            for (int i = 1; i < n; i++) {
                x.setReward(0, 1);
            }
            c.is("after " + n, x.undo(), Math.min(n, 8) - 1);
        }
        ProbabilisticChecker y = states(8);
        y.setReward(0, 1);
        for (int i = 0; i < 20; i++) {
            c.is("undo", y.undo(), 7);
            y.setReward(0, i % 10);
        }
        c.of(39, "NONE if there is none");
        c.is("a new one", new ProbabilisticChecker().undo(), NONE);
        ProbabilisticChecker z = states(1);
        c.is("0 is no error", z.undo(), 0);
        c.is("none is left", z.undo(), NONE);
        c.is("none is left", z.undo(), NONE);
        z.addState();
        c.is("a new change", z.undo(), 0);
        c.is("none is left", z.undo(), NONE);
        c.is("nothing happens", z.stateCount(), 0);
    }

    /** An object answers 512 calls; the last of them as well as the first. */
    private void lastCall() {
        c.of(39, "Returns the number of changes that can still be undone");
        ProbabilisticChecker x = states(8);
        for (int call = 9; call < 512; call++) {
            x.setReward(call % 8, call % 10);
        }
        c.is("call 512", x.undo(), 7);
    }
}
