/** Promises 1 to 14 and 37 to 39: the chain, its components, undo and snapshots. */
public final class ChainTest {
    private static final Due DUE = new Due("ChainTest");
    private static final int BAD = ProbabilisticChecker.BAD;
    private static final int NONE = ProbabilisticChecker.NONE;
    private static final int FULL = ProbabilisticChecker.FULL;
    private static final int[] NO_STATES = {-1, 3, 8, Integer.MIN_VALUE, Integer.MAX_VALUE};

    public static void main(String[] args) {
        newObject();
        addState();
        removeState();
        stateCount();
        setWeight();
        weightAndSum();
        setLabels();
        setReward();
        reaches();
        component();
        bottoms();
        save();
        restore();
        undo();
        undoForgets();
        undoKindsOfChanges();
        DUE.end();
    }

    static ProbabilisticChecker withStates(int n) {
        ProbabilisticChecker x = new ProbabilisticChecker();
        for (int i = 0; i < n; i++) {
            x.addState();
        }
        return x;
    }

    private static void newObject() {
        ProbabilisticChecker x = new ProbabilisticChecker();
        DUE.is("1: stateCount", x.stateCount(), 0);
        DUE.is("1: formulaCount", x.formulaCount(), 0);
        DUE.is("1: restore", x.restore(), NONE);
        DUE.is("1: undo", x.undo(), NONE);
        DUE.is("1: first feed", x.feed('a'), 1);
        DUE.is("1: sum", x.sum(0), BAD);
        ProbabilisticChecker y = withStates(2);
        DUE.is("1: another object has its own chain", x.stateCount(), 0);
        DUE.is("1: the other one", y.stateCount(), 2);
    }

    private static void addState() {
        ProbabilisticChecker x = new ProbabilisticChecker();
        for (int i = 0; i < 8; i++) {
            DUE.is("2: addState", x.addState(), i);
            DUE.is("2: sum", x.sum(i), 0);
            DUE.is("2: labels", x.labels(i), 0);
            DUE.is("2: reward", x.reward(i), 0);
        }
        DUE.is("2: ninth", x.addState(), FULL);
        DUE.is("2: stays", x.stateCount(), 8);
        DUE.is("2: a refused one is no change", x.undo(), 7);
        DUE.is("2: undone", x.stateCount(), 7);
    }

    private static void removeState() {
        ProbabilisticChecker x = withStates(3);
        x.setWeight(0, 2, 4);
        x.setWeight(0, 1, 3);
        x.setWeight(2, 0, 5);
        x.setLabels(2, 9);
        x.setReward(2, 7);
        DUE.is("3: removeState", x.removeState(), 2);
        DUE.is("3: gone", x.weight(0, 2), BAD);
        DUE.is("3: the weights to it go, too", x.sum(0), 3);
        x.addState();
        DUE.is("3: no weight to the new one", x.weight(0, 2), 0);
        DUE.is("3: no weight from the new one", x.weight(2, 0), 0);
        DUE.is("3: no labels", x.labels(2), 0);
        DUE.is("3: no reward", x.reward(2), 0);
        DUE.is("3: room for the sum", x.setWeight(0, 2, 7), 0);
        DUE.is("3: 3 to 2", x.removeState(), 2);
        DUE.is("3: 2 to 1", x.removeState(), 1);
        DUE.is("3: 1 to 0", x.removeState(), 0);
        DUE.is("3: none left", x.removeState(), NONE);
    }

    private static void stateCount() {
        ProbabilisticChecker x = withStates(4);
        DUE.is("4: four", x.stateCount(), 4);
        x.removeState();
        DUE.is("4: three", x.stateCount(), 3);
        x.undo();
        DUE.is("4: four again", x.stateCount(), 4);
    }

    private static void setWeight() {
        ProbabilisticChecker x = withStates(3);
        DUE.is("5: first", x.setWeight(0, 1, 9), 0);
        DUE.is("5: previous", x.setWeight(0, 1, 6), 9);
        DUE.is("5: itself", x.setWeight(0, 0, 4), 0);
        DUE.is("5: beyond 10", x.setWeight(0, 2, 1), FULL);
        DUE.is("5: its own old weight does not count", x.setWeight(0, 1, 7), FULL);
        DUE.is("5: to 10 again", x.setWeight(0, 1, 5), 6);
        DUE.is("5: exactly 10", x.setWeight(0, 2, 1), 0);
        DUE.is("5: 0 always fits", x.setWeight(0, 2, 0), 1);
        DUE.is("5: weight 10", x.setWeight(1, 0, 10), BAD);
        DUE.is("5: weight -1", x.setWeight(1, 0, -1), BAD);
        DUE.is("5: BAD comes before FULL", x.setWeight(0, 3, 9), BAD);
        DUE.is("5: out of range before FULL", x.setWeight(0, 2, 10), BAD);
        DUE.is("5: errors change nothing", x.sum(0), 9);
        for (int none : NO_STATES) {
            DUE.is("5: from", x.setWeight(none, 0, 1), BAD);
            DUE.is("5: to", x.setWeight(0, none, 1), BAD);
        }
    }

    private static void weightAndSum() {
        ProbabilisticChecker x = withStates(3);
        x.setWeight(1, 2, 3);
        x.setWeight(1, 1, 4);
        DUE.is("6: weight", x.weight(1, 2), 3);
        DUE.is("6: other way round", x.weight(2, 1), 0);
        DUE.is("7: sum", x.sum(1), 7);
        DUE.is("7: sum 0", x.sum(0), 0);
        x.setWeight(1, 1, 7);
        DUE.is("7: sum 10", x.sum(1), 10);
        for (int none : NO_STATES) {
            DUE.is("6: from", x.weight(none, 0), BAD);
            DUE.is("6: to", x.weight(0, none), BAD);
            DUE.is("7: state", x.sum(none), BAD);
        }
    }

    private static void setLabels() {
        ProbabilisticChecker x = withStates(3);
        DUE.is("8: first", x.setLabels(1, 15), 0);
        DUE.is("8: previous", x.setLabels(1, 6), 15);
        DUE.is("8: none again", x.setLabels(2, 0), 0);
        DUE.is("8: 16", x.setLabels(1, 16), BAD);
        DUE.is("8: -1", x.setLabels(1, -1), BAD);
        DUE.is("9: labels", x.labels(1), 6);
        DUE.is("9: others", x.labels(0), 0);
        for (int none : NO_STATES) {
            DUE.is("8: state", x.setLabels(none, 0), BAD);
            DUE.is("9: state", x.labels(none), BAD);
        }
    }

    private static void setReward() {
        ProbabilisticChecker x = withStates(3);
        DUE.is("10: first", x.setReward(2, 9), 0);
        DUE.is("10: previous", x.setReward(2, 4), 9);
        DUE.is("10: none", x.setReward(1, 0), 0);
        DUE.is("10: 10", x.setReward(2, 10), BAD);
        DUE.is("10: -1", x.setReward(2, -1), BAD);
        DUE.is("11: reward", x.reward(2), 4);
        DUE.is("11: others", x.reward(0), 0);
        for (int none : NO_STATES) {
            DUE.is("10: state", x.setReward(none, 0), BAD);
            DUE.is("11: state", x.reward(none), BAD);
        }
    }

    private static void reaches() {
        ProbabilisticChecker x = withStates(4);
        DUE.is("12: alone", x.reaches(3), 8);
        x.setWeight(3, 2, 1);
        x.setWeight(2, 1, 1);
        x.setWeight(1, 3, 1);
        DUE.is("12: by way of others", x.reaches(3), 14);
        DUE.is("12: not backwards", x.reaches(0), 1);
        x.setWeight(0, 3, 1);
        DUE.is("12: all", x.reaches(0), 15);
        DUE.is("12: itself, though it never comes back", x.reaches(0) & 1, 1);
        DUE.is("12: no such state", x.reaches(4), BAD);
        DUE.is("12: -1", x.reaches(-1), BAD);
        ProbabilisticChecker y = withStates(8);
        for (int i = 7; i > 0; i--) {
            y.setWeight(i, i - 1, 1);
        }
        DUE.is("12: the longest way", y.reaches(7), 255);
        DUE.is("12: its end", y.reaches(0), 1);
    }

    private static void component() {
        ProbabilisticChecker x = withStates(5);
        x.setWeight(0, 1, 1);
        x.setWeight(1, 2, 1);
        x.setWeight(2, 0, 1);
        x.setWeight(2, 3, 1);
        x.setWeight(3, 4, 1);
        DUE.is("13: ring", x.component(1), 7);
        DUE.is("13: between", x.component(3), 8);
        DUE.is("13: end", x.component(4), 16);
        x.setWeight(4, 2, 1);
        DUE.is("13: one ring", x.component(3), 31);
        DUE.is("13: no such state", x.component(5), BAD);
        DUE.is("13: -1", x.component(-1), BAD);
    }

    private static void bottoms() {
        ProbabilisticChecker x = withStates(5);
        DUE.is("14: all of them alone", x.bottoms(), 31);
        x.setWeight(0, 1, 1);
        x.setWeight(1, 0, 1);
        DUE.is("14: a ring", x.bottoms(), 31);
        x.setWeight(1, 2, 1);
        DUE.is("14: the ring leaks", x.bottoms(), 28);
        x.setWeight(4, 4, 3);
        DUE.is("14: a loop to itself", x.bottoms(), 28);
        x.setWeight(3, 4, 1);
        DUE.is("14: transient", x.bottoms(), 20);
        ProbabilisticChecker y = withStates(3);
        y.setWeight(2, 1, 1);
        y.setWeight(1, 0, 1);
        DUE.is("14: all to 0", y.bottoms(), 1);
        DUE.is("14: no states", new ProbabilisticChecker().bottoms(), 0);
    }

    private static void save() {
        ProbabilisticChecker x = new ProbabilisticChecker();
        DUE.is("37: without states", x.save(), 0);
        x.addState();
        x.addState();
        DUE.is("37: two states", x.save(), 2);
        x.setWeight(0, 1, 5);
        DUE.is("37: in place of the earlier one", x.save(), 2);
        x.setWeight(0, 1, 6);
        DUE.is("38: two states", x.restore(), 2);
        DUE.is("37: the later one", x.weight(0, 1), 5);
        ProbabilisticChecker y = withStates(1);
        y.save();
        DUE.is("37: is no change", y.undo(), 0);
        DUE.is("37: undo leaves the snapshot", y.restore(), 1);
    }

    private static void restore() {
        ProbabilisticChecker x = withStates(2);
        DUE.is("38: no snapshot", x.restore(), NONE);
        x.setWeight(0, 1, 2);
        x.setLabels(1, 3);
        x.setReward(0, 8);
        x.save();
        x.addState();
        x.setWeight(0, 2, 1);
        x.setLabels(1, 4);
        x.setReward(0, 1);
        DUE.is("38: states", x.restore(), 2);
        DUE.is("38: weights", x.sum(0), 2);
        DUE.is("38: labels", x.labels(1), 3);
        DUE.is("38: rewards", x.reward(0), 8);
        x.addState();
        DUE.is("38: no weight of the lost state", x.weight(0, 2), 0);
        x.removeState();
        x.removeState();
        DUE.is("38: it is kept", x.restore(), 2);
        DUE.is("38: it is kept", x.weight(0, 1), 2);
        DUE.is("38: can be undone", x.undo(), 7);
        DUE.is("38: undone", x.stateCount(), 1);
        ProbabilisticChecker y = new ProbabilisticChecker();
        y.save();
        y.addState();
        DUE.is("38: a snapshot without states", y.restore(), 0);
    }

    private static void undo() {
        ProbabilisticChecker x = withStates(2);
        x.setWeight(0, 1, 3);
        x.setWeight(0, 1, 5);
        DUE.is("39: undo", x.undo(), 3);
        DUE.is("39: undone", x.weight(0, 1), 3);
        DUE.is("39: undo", x.undo(), 2);
        DUE.is("39: undone", x.weight(0, 1), 0);
        DUE.is("39: undo", x.undo(), 1);
        DUE.is("39: undo", x.undo(), 0);
        DUE.is("39: no state is left", x.stateCount(), 0);
        DUE.is("39: nothing to undo", x.undo(), NONE);
        DUE.is("39: nothing to undo", x.undo(), NONE);
        x.addState();
        DUE.is("39: begins again", x.undo(), 0);
    }

    private static void undoForgets() {
        ProbabilisticChecker x = withStates(1);
        for (int i = 1; i <= 9; i++) {
            x.setReward(0, i);
        }
        for (int i = 8; i >= 6; i--) {
            DUE.is("39: of eight", x.undo(), i - 1);
            DUE.is("39: the reward before", x.reward(0), i);
        }
        x.setReward(0, 2);
        x.setReward(0, 2);
        DUE.is("39: what changes nothing is a change, too", x.undo(), 6);
        DUE.is("39: the same", x.reward(0), 2);
        for (int i = 5; i >= 0; i--) {
            DUE.is("39: goes on", x.undo(), i);
        }
        DUE.is("39: older ones are forgotten", x.undo(), NONE);
        DUE.is("39: the oldest that is known", x.reward(0), 1);
    }

    private static void undoKindsOfChanges() {
        ProbabilisticChecker x = withStates(3);
        x.setWeight(2, 0, 4);
        x.setWeight(0, 2, 3);
        x.setLabels(2, 5);
        x.setReward(2, 6);
        x.removeState();
        x.feed('a');
        DUE.is("39: removeState", x.undo(), 7);
        DUE.is("39: weight from", x.weight(2, 0), 4);
        DUE.is("39: weight to", x.weight(0, 2), 3);
        DUE.is("39: labels", x.labels(2), 5);
        DUE.is("39: reward", x.reward(2), 6);
        DUE.is("39: not the buffer", x.addFormula(), 0);
        x.undo();
        DUE.is("39: setReward", x.reward(2), 0);
        x.undo();
        DUE.is("39: setLabels", x.labels(2), 0);
        DUE.is("39: formulas are not affected", x.formulaCount(), 1);
        x.setWeight(0, 0, 10);
        x.setLabels(0, 16);
        x.setReward(0, 10);
        x.restore();
        DUE.is("39: errors are no changes", x.undo(), 4);
        DUE.is("39: setWeight", x.weight(0, 2), 0);
    }
}
