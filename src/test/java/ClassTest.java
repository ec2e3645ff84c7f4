/** Promises 15 to 17: the classes of the coarsest partition. */
public final class ClassTest {
    private static final Due DUE = new Due("ClassTest");
    private static final int BAD = ProbabilisticChecker.BAD;

    public static void main(String[] args) {
        classCount();
        classOf();
        classesOfALongChain();
        lumped();
        DUE.end();
    }

    /** States 1 and 2 behave the same way in other weights; 3 and 4 are ends, 3 with a label. */
    private static ProbabilisticChecker twins() {
        ProbabilisticChecker x = ChainTest.withStates(5);
        x.setWeight(0, 1, 1);
        x.setWeight(0, 2, 2);
        x.setWeight(1, 3, 1);
        x.setWeight(1, 4, 2);
        x.setWeight(2, 3, 3);
        x.setWeight(2, 4, 6);
        x.setLabels(3, 1);
        return x;
    }

    private static void classCount() {
        DUE.is("15: no states", new ProbabilisticChecker().classCount(), 0);
        ProbabilisticChecker x = ChainTest.withStates(8);
        DUE.is("15: all alike", x.classCount(), 1);
        x.setWeight(0, 1, 3);
        x.setWeight(1, 2, 3);
        DUE.is("15: without labels all steps are alike", x.classCount(), 1);
        x.setReward(7, 1);
        DUE.is("15: the reward parts", x.classCount(), 2);
        x.setLabels(6, 8);
        DUE.is("15: the labels part", x.classCount(), 3);
        DUE.is("15: twins", twins().classCount(), 4);
    }

    private static void classOf() {
        ProbabilisticChecker x = twins();
        int[] due = {0, 1, 1, 2, 3};
        for (int s = 0; s < 5; s++) {
            DUE.is("16: classOf", x.classOf(s), due[s]);
        }
        x.setWeight(2, 3, 4);
        DUE.is("16: no twins any more", x.classOf(2), 2);
        DUE.is("16: the next one moves up", x.classOf(4), 4);
        DUE.is("16: no such state", x.classOf(5), BAD);
        DUE.is("16: -1", x.classOf(-1), BAD);
        DUE.is("16: no states", new ProbabilisticChecker().classOf(0), BAD);
    }

    /** Only the last state differs, so that each round parts one more. */
    private static void classesOfALongChain() {
        ProbabilisticChecker x = ChainTest.withStates(8);
        for (int s = 0; s < 7; s++) {
            x.setWeight(s, s + 1, 1);
        }
        x.setLabels(7, 2);
        DUE.is("15: all apart", x.classCount(), 8);
        for (int s = 0; s < 8; s++) {
            DUE.is("16: in their order", x.classOf(s), s);
        }
        x.setWeight(3, 3, 2);
        x.setWeight(2, 3, 2);
        DUE.is("15: weights of 2 to one state are the same step", x.classCount(), 8);
        x.setWeight(6, 7, 0);
        DUE.is("15: 0 to 6 never come to 7", x.classCount(), 2);
        DUE.is("16: 0 to 6", x.classOf(6), 0);
        DUE.is("16: 7", x.classOf(7), 1);
    }

    private static void lumped() {
        ProbabilisticChecker x = twins();
        DUE.is("17: to both twins", x.lumped(0, 1, 0), 1);
        DUE.is("17: in lowest terms", x.lumped(0, 1, 1), 1);
        DUE.is("17: numerator", x.lumped(2, 3, 0), 2);
        DUE.is("17: denominator", x.lumped(2, 3, 1), 3);
        DUE.is("17: no step", x.lumped(0, 0, 0), 0);
        DUE.is("17: 0 is 0 / 1", x.lumped(0, 0, 1), 1);
        DUE.is("17: sum 0 stays", x.lumped(4, 3, 0), 1);
        DUE.is("17: sum 0 goes nowhere else", x.lumped(4, 2, 0), 0);
        DUE.is("17: no such class", x.lumped(0, 4, 0), BAD);
        DUE.is("17: class -1", x.lumped(0, -1, 0), BAD);
        DUE.is("17: no such state", x.lumped(5, 0, 0), BAD);
        DUE.is("17: state -1", x.lumped(-1, 0, 0), BAD);
        DUE.is("17: part 2", x.lumped(0, 0, 2), BAD);
        DUE.is("17: part -1", x.lumped(0, 0, -1), BAD);
    }
}
