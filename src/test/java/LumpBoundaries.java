/** The boundaries of the classes: promises 15 to 17. */
final class LumpBoundaries {
    private static final int BAD = ProbabilisticChecker.BAD;

    private final Clauses c;

    LumpBoundaries(Clauses clauses) {
        c = clauses;
    }

    void run() {
        coarsest();
        oneDifference();
        sameProbabilities();
        order();
        classCount();
        classRange();
        partRange();
        values();
    }

    private static ProbabilisticChecker states(int n) {
        return ChainTest.withStates(n);
    }

    private void coarsest() {
        c.of(0, "The classes are the sets of the coarsest partition of the states such that two states of one set have "
                + "the same labels, the same reward, and for each set of the partition the same probability of a step to "
                + "its states");
        c.is("no states", new ProbabilisticChecker().classCount(), 0);
        c.is("eight that are alike", states(8).classCount(), 1);
        ProbabilisticChecker x = ChainBoundaries.ring(8);
        c.is("a ring", x.classCount(), 1);
        x.setLabels(0, 1);
        c.is("a ring with one label: the distances to it part all", x.classCount(), 8);
        x.setLabels(4, 1);
        c.is("twice around", x.classCount(), 4);
        for (int s = 0; s < 8; s++) {
            c.is("twice around", x.classOf(s), s % 4);
        }
        x.setLabels(2, 1);
        x.setLabels(6, 1);
        c.is("four times around", x.classCount(), 2);
        ProbabilisticChecker y = states(8);
        for (int s = 0; s < 8; s++) {
            y.setReward(s, s);
        }
        c.is("eight that differ", y.classCount(), 8);
    }

    /** Two states that differ in one thing alone, in the least way. */
    private void oneDifference() {
        c.of(0, "The classes are the sets of the coarsest partition of the states such that two states of one set have "
                + "the same labels, the same reward, and for each set of the partition the same probability of a step to "
                + "its states");
        ProbabilisticChecker x = states(2);
        for (int label = 0; label < 4; label++) {
            x.setLabels(1, 1 << label);
            c.is("label " + label, x.classCount(), 2);
            x.setLabels(0, 15);
            c.is("of all, label " + label, x.classCount(), 2);
            x.setLabels(1, 15);
            c.is("all labels", x.classCount(), 1);
            x.setLabels(0, 0);
        }
        x.setLabels(1, 0);
        x.setReward(0, 1);
        c.is("reward 1 and 0", x.classCount(), 2);
        x.setReward(1, 9);
        c.is("reward 1 and 9", x.classCount(), 2);
        x.setReward(0, 9);
        c.is("reward 9", x.classCount(), 1);
        ProbabilisticChecker y = states(4);
        y.setLabels(2, 1);
        y.setLabels(3, 2);
        y.setWeight(0, 2, 9);
        y.setWeight(0, 3, 1);
        y.setWeight(1, 2, 8);
        y.setWeight(1, 3, 1);
        c.is("9/10 and 8/9", y.classCount(), 4);
        y.setWeight(1, 2, 9);
        c.is("9/10 and 9/10", y.classCount(), 3);
    }

    private void sameProbabilities() {
        c.of(0, "The classes are the sets of the coarsest partition of the states such that two states of one set have "
                + "the same labels, the same reward, and for each set of the partition the same probability of a step to "
                + "its states");
        ProbabilisticChecker x = states(6);
        x.setLabels(4, 1);
        x.setLabels(5, 2);
        x.setWeight(0, 4, 1);
        x.setWeight(0, 5, 2);
        x.setWeight(1, 4, 3);
        x.setWeight(1, 5, 6);
        c.is("1/3 and 3/9", x.classOf(1), 0);
        x.setWeight(2, 4, 3);
        x.setWeight(2, 5, 5);
        c.is("3/8", x.classOf(2), 1);
        c.is("the sum 0 stays", x.classOf(3), 2);
        x.setWeight(3, 3, 7);
        x.setWeight(4, 4, 5);
        c.is("7/7 to itself", x.classOf(3), 2);
        c.is("all of them", x.classCount(), 5);
        ProbabilisticChecker y = states(4);
        y.setReward(0, 1);
        y.setReward(1, 1);
        y.setWeight(0, 2, 4);
        y.setWeight(1, 2, 2);
        y.setWeight(1, 3, 2);
        c.is("one half each to two of one class", y.classOf(1), 0);
        y.setWeight(3, 0, 1);
        c.is("they are of one class no more", y.classOf(1), 1);
        y.setWeight(2, 1, 9);
        c.is("they are of one class again", y.classOf(1), 0);
    }

    private void order() {
        c.of(0, "They are numbered from 0 in ascending order of their lowest states");
        ProbabilisticChecker x = states(8);
        int[] labels = {7, 3, 7, 0, 3, 12, 0, 12};
        int[] due = {0, 1, 0, 2, 1, 3, 2, 3};
        for (int s = 0; s < 8; s++) {
            x.setLabels(s, labels[s]);
        }
        for (int s = 0; s < 8; s++) {
            c.is("state " + s, x.classOf(s), due[s]);
        }
        x.setReward(0, 1);
        int[] later = {0, 1, 2, 3, 1, 4, 3, 4};
        for (int s = 0; s < 8; s++) {
            c.is("state " + s + ", 0 alone", x.classOf(s), later[s]);
        }
        x.setLabels(7, 1);
        c.is("the last one", x.classOf(7), 5);
        ProbabilisticChecker y = ChainBoundaries.ring(8);
        y.setLabels(7, 1);
        for (int s = 0; s < 8; s++) {
            c.is("parted late, from the end", y.classOf(s), s);
        }
    }

    private void classCount() {
        c.of(15, "Returns the number of classes");
        ProbabilisticChecker x = new ProbabilisticChecker();
        c.is("no states", x.classCount(), 0);
        for (int s = 0; s < 8; s++) {
            x.addState();
            x.setReward(s, s);
            c.is("each its own", x.classCount(), s + 1);
        }
        for (int n = 7; n >= 0; n--) {
            x.removeState();
            c.is("one less", x.classCount(), n);
        }
        c.of(16, "Returns the number of the class");
        ProbabilisticChecker y = states(8);
        y.setReward(7, 1);
        c.is("0", y.classOf(6), 0);
        c.is("1", y.classOf(7), 1);
        for (int s = 0; s < 7; s++) {
            y.setLabels(s, s);
        }
        c.is("7", y.classOf(7), 7);
    }

    private void classRange() {
        c.of(17, "`c`: the number of the class");
        ProbabilisticChecker x = states(8);
        x.setLabels(3, 1);
        c.is("the first", x.lumped(0, 0, 0), 1);
        c.is("the last", x.lumped(0, 1, 0), 0);
        c.is("behind the last, though there are such states", x.lumped(0, 2, 0), BAD);
        c.is("before the first", x.lumped(0, -1, 0), BAD);
        x.setLabels(4, 2);
        c.is("it is there now", x.lumped(0, 2, 0), 0);
        c.of(17, "BAD if an argument is out of range");
        int[] wrong = {-1, 3, 4, 7, 8, 9, Integer.MIN_VALUE, Integer.MAX_VALUE};
        for (int number : wrong) {
            c.is("class", x.lumped(0, number, 0), BAD);
            c.is("class, denominator", x.lumped(7, number, 1), BAD);
        }
        for (int s : ChainBoundaries.outside(8)) {
            c.is("state", x.lumped(s, 0, 0), BAD);
        }
        for (int s : ChainBoundaries.outside(3)) {
            c.is("state of three", states(3).lumped(s, 0, 1), BAD);
        }
        c.is("no states", new ProbabilisticChecker().lumped(0, 0, 0), BAD);
    }

    private void partRange() {
        c.of(17, "`part`: 0 for the numerator, 1 for the denominator");
        ProbabilisticChecker x = states(2);
        x.setLabels(1, 1);
        x.setWeight(0, 0, 2);
        x.setWeight(0, 1, 4);
        c.is("0", x.lumped(0, 1, 0), 2);
        c.is("1", x.lumped(0, 1, 1), 3);
        c.of(17, "BAD if an argument is out of range");
        int[] wrong = {-1, 2, 3, Integer.MIN_VALUE, Integer.MAX_VALUE};
        for (int part : wrong) {
            c.is("part", x.lumped(0, 1, part), BAD);
            c.is("part and class", x.lumped(0, 2, part), BAD);
        }
    }

    private void values() {
        c.of(17, "Returns the probability of a step from a state to the states of a class");
        ProbabilisticChecker x = states(8);
        x.setLabels(0, 1);
        for (int to = 1; to < 8; to++) {
            x.setWeight(0, to, 1);
        }
        c.isFraction("to all seven", x.lumped(0, 1, 0), x.lumped(0, 1, 1), 1, 1);
        c.isFraction("to its own", x.lumped(0, 0, 0), x.lumped(0, 0, 1), 0, 1);
        x.setWeight(0, 0, 3);
        c.isFraction("to all seven", x.lumped(0, 1, 0), x.lumped(0, 1, 1), 7, 10);
        c.isFraction("to its own", x.lumped(0, 0, 0), x.lumped(0, 0, 1), 3, 10);
        c.isFraction("the sum 0, in its class", x.lumped(7, 1, 0), x.lumped(7, 1, 1), 1, 1);
        c.isFraction("the sum 0, not in it", x.lumped(7, 0, 0), x.lumped(7, 0, 1), 0, 1);
    }
}
