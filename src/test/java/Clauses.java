import java.io.IOException;
import java.nio.file.Files;
import java.nio.file.Path;
import java.util.ArrayList;
import java.util.HashMap;
import java.util.LinkedHashSet;
import java.util.List;
import java.util.Map;
import java.util.Set;

/**
 * The clauses of the document from 'Description' to 'Promise 39', and how many answers were checked for each: a test
 * quotes the clause with which it stands, so that none can be left out or invented. Promise 0 is the description.
 */
final class Clauses {
    private static final Path DOCUMENT = Path.of("..", "shared", "DOC.md");

    private final Due due;
    private final Set<String> written = new LinkedHashSet<>();
    private final Map<String, Integer> checks = new HashMap<>();
    private String current = null;

    Clauses(Due ownDue) throws IOException {
        due = ownDue;
        read(Files.readAllLines(DOCUMENT));
    }

    /** What is checked from here on is said by this clause of the document. */
    void of(int promise, String clause) {
        current = promise + ": " + clause;
        due.holds("the document does not say " + current, written.contains(current));
    }

    void is(String call, long got, long want) {
        checks.merge(current, 1, Integer::sum);
        due.is(current + " - " + call, got, want);
    }

    void holds(String what, boolean fact) {
        is(what, fact ? 1 : 0, 1);
    }

    void isFraction(String call, long top, long bottom, long dueTop, long dueBottom) {
        is(call + ", numerator", top, dueTop);
        is(call + ", denominator", bottom, dueBottom);
    }

    /** Every clause must have been checked, but for those that name no boundary. */
    void end(Set<String> plain) {
        for (String clause : written) {
            String text = clause.substring(clause.indexOf(": ") + 2);
            if (!plain.contains(text)) {
                due.holds("no test for " + clause, checks.containsKey(clause));
            }
        }
        for (String text : plain) {
            due.holds("the document does not say " + text, isWritten(text));
        }
    }

    private boolean isWritten(String text) {
        for (String clause : written) {
            if (clause.endsWith(": " + text)) {
                return true;
            }
        }
        return false;
    }

    private void read(List<String> lines) {
        int promise = -1;
        List<String> paragraph = new ArrayList<>();
        boolean indented = false;
        for (String line : lines) {
            boolean isRule = line.startsWith("  ");
            boolean begins = line.isBlank() || line.startsWith("#") || line.startsWith("- ")
                    || isRule && line.charAt(2) != ' ' || indented && !isRule;
            if (begins) {
                split(promise, paragraph);
            }
            indented = isRule;
            if (line.startsWith("## ")) {
                promise = numberOf(line, promise);
            } else if (!line.isBlank()) {
                paragraph.add(line.strip());
            }
        }
        split(promise, paragraph);
    }

    private static int numberOf(String heading, int before) {
        if (heading.equals("## Description")) {
            return 0;
        }
        if (heading.startsWith("## Promise ")) {
            return Integer.parseInt(heading.substring(11, heading.indexOf(':')));
        }
        return -1;
    }

    private void split(int promise, List<String> paragraph) {
        String text = String.join(" ", paragraph);
        paragraph.clear();
        // A line in backticks alone is a signature, which FaceTest looks at.
        if (promise < 0 || text.isEmpty() || text.matches("`[^`]*`")) {
            return;
        }
        for (String part : text.split("(?<=[.;]) ")) {
            // A heading of a paragraph is one word.
            String clause = part.replaceAll("[.;]$", "").replaceAll("^- ", "");
            if (clause.contains(" ")) {
                written.add(promise + ": " + clause);
            }
        }
    }
}
