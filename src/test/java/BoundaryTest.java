import java.io.IOException;
import java.util.Set;

/**
 * Each clause of the document that names a boundary (too small, too large, empty, full, a wrap-around, a refused call)
 * with answers that would be others if the clause did not hold. A clause without a test is a wrong answer here.
 */
public final class BoundaryTest {
    /** Clauses that name no boundary of their own; the tests by promises look at what they say. */
    private static final Set<String> PLAIN = Set.of(
            "The constants:",
            "The constructor and the methods follow, a promise each: the signature, then what it does",
            "Sets a weight",
            "Sets the labels of a state",
            "Sets the reward of a state",
            "`from`: the state from which the step leads",
            "`to`: the state to which it leads",
            "`state`: the state",
            "`formula`: the number of a formula",
            "`first`: the number of a formula",
            "`second`: the number of a formula",
            "Returns a weight",
            "Returns the weight",
            "Returns the previous weight",
            "Returns the previous labels",
            "Returns the previous reward",
            "Returns the sum of a state",
            "Returns the labels of a state",
            "Returns the reward of a state",
            "Returns the reward",
            "Returns the states that a state reaches",
            "Returns the set of states",
            "Returns the class of a state",
            "Returns the part",
            "Returns a character of the text of a formula",
            "Returns the character",
            "Returns how many formulas of the forms that begin with P, S or R are inside one another in a formula",
            "Returns the states in which a formula holds",
            "Returns whether a formula holds in a state",
            "Returns the probability of X",
            "Returns the probability of U",
            "Returns the probability of B",
            "Returns the expected reward for a formula",
            "Returns a state of the best path for U",
            "Walks through the chain at random",
            "Returns the last state");

    public static void main(String[] args) throws IOException {
        Due due = new Due("BoundaryTest");
        Clauses clauses = new Clauses(due);
        new ChainBoundaries(clauses).run();
        new ChangeBoundaries(clauses).run();
        new LumpBoundaries(clauses).run();
        new FormulaBoundaries(clauses).run();
        new HoldBoundaries(clauses).run();
        new ValueBoundaries(clauses).run();
        new PathBoundaries(clauses).run();
        clauses.end(PLAIN);
        due.end();
    }
}
