/** The calls of README.md's example, with the answers that it tells. */
public final class ReadmeTest {
    public static void main(String[] args) {
        Due due = new Due("ReadmeTest");
        ProbabilisticChecker x = new ProbabilisticChecker();
        due.is("addState", x.addState(), 0);
        due.is("addState", x.addState(), 1);
        x.setWeight(0, 0, 1);
        x.setWeight(0, 1, 2);
        x.setReward(0, 4);
        x.setLabels(1, 1);
        for (char c : "P>=1/2[Xa]".toCharArray()) {
            x.feed(c);
        }
        int f = x.addFormula();
        due.is("the first formula", f, 0);
        due.is("holdsIn", x.holdsIn(f), 3);
        x.feed('a');
        int a = x.addFormula();
        due.is("the second formula", a, 1);
        due.is("next, numerator", x.next(a, 0, 0), 2);
        due.is("next, denominator", x.next(a, 0, 1), 3);
        due.is("expected", x.expected(a, 0, 0), 6);
        due.is("undo", x.undo(), 5);
        due.is("expected after undo", x.expected(a, 0, 0), -5);
        due.end();
    }
}
