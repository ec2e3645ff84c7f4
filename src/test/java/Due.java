/** Counts and prints the answers of a test that are not the ones that are due. */
final class Due {
    private final String name;
    private int checked = 0;
    private int wrong = 0;

    Due(String testName) {
        name = testName;
    }

    void is(String call, long got, long want) {
        checked++;
        if (got != want) {
            wrong++;
            if (wrong <= 20) {
                System.out.println(name + ": " + call + " answered " + got + ", due is " + want);
            }
        }
    }

    void holds(String what, boolean fact) {
        is(what, fact ? 1 : 0, 1);
    }

    /** Prints the result, and ends the program with exit code 1 if there was a wrong answer. */
    void end() {
        System.out.println(name + ": " + checked + " answers, " + wrong + " wrong");
        if (wrong != 0 || checked == 0) {
            System.exit(1);
        }
    }
}
