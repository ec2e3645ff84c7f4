import com.sun.management.ThreadMXBean;
import java.lang.management.ManagementFactory;

/** What a run makes must stay far below the room that all calls of a run share. */
public final class RoomTest {
    private static final int CALLS = 512;
    private static final long MOST_OF_AN_OBJECT = 16_000;
    private static final long MOST_OF_A_RUN = 200_000;

    public static void main(String[] args) {
        Due due = new Due("RoomTest");
        ThreadMXBean threads = (ThreadMXBean) ManagementFactory.getThreadMXBean();
        long id = Thread.currentThread().getId();
        playFormulas();
        long before = threads.getThreadAllocatedBytes(id);
        ProbabilisticChecker x = new ProbabilisticChecker();
        long made = threads.getThreadAllocatedBytes(id) - before;
        due.holds("a new object takes " + made + " bytes", made <= MOST_OF_AN_OBJECT && x.stateCount() == 0);
        before = threads.getThreadAllocatedBytes(id);
        playFormulas();
        made = threads.getThreadAllocatedBytes(id) - before;
        due.holds("a run takes " + made + " bytes", made <= MOST_OF_A_RUN);
        due.end();
    }

    /** Spends the calls on the dearest ones: full buffers, their formulas, and steady states of eight states. */
    private static void playFormulas() {
        ProbabilisticChecker x = ChainTest.withStates(8);
        for (int s = 0; s < 8; s++) {
            x.setWeight(s, (s + 1) % 8, 7);
            x.setWeight(s, s / 2, 3);
        }
        int calls = 24;
        for (int i = 0; i < 4; i++) {
            String text = "(S<1[a]|(S<1[a]|(S<1[a]|(S<1[S<1[a]]|S<1[a]))))";
            FormulaTest.add(x, text);
            calls += text.length() + 1;
        }
        for (; calls < CALLS; calls++) {
            x.holdsIn(calls % 4);
        }
    }
}
