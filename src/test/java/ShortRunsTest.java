import java.util.ArrayDeque;
import java.util.Arrays;
import java.util.Deque;
import java.util.HashSet;
import java.util.Set;

/**
 * All short runs of a few calls on the first and the last key, the shortest first, behind each of
 * some beginnings: each call, and all questions behind it, answer or throw as the plain model of
 * the document does. What follows a state that an earlier run came to is not tried again.
 */
public final class ShortRunsTest {
    private static final int MOST_STATES = 1500;
    private static final int[] NARROWED = {4, 1, 5, 0};
    private static final int[] TICK = {6, 0, 0, 0};
    private static final int[] WHOLE_TABLE_A_TICK = {5, 40, 0, 0};
    private static final int[][] CALLS = {
        {0, 0, 1, 5}, {0, 0, 1, 6}, {0, 39, 2, 5}, {0, 39, 2, 6},
        {1, 0, 123, 5}, {1, 0, 3, 6}, {1, 39, 4, 5},
        {2, 0, 0, 0}, {2, 39, 0, 0},
        {3, 0, 39, 0}, {3, 39, 0, 0},
        {4, 0, 0, 0}, NARROWED, {4, 2, 9, 0},
        {5, 1, 10, 0}, {5, 39, 0, 0},
        TICK, {6, 1, 0, 0},
        {7, 0, 0, 0}, {7, 2, 0, 0},
        {8, 0, 0, 0}, {9, 0, 0, 0}, {10, 0, 0, 0}
    };
    private static final int[][][] BEGINNINGS = {
        {},
        // COPYING, the mark 39 with a row on either side of it, one of which does not fit.
        {{0, 0, 1, 6}, {0, 39, 2, 5}, {5, 39, 10, 0}, NARROWED, TICK},
        // COPYING, the mark 40 and a chunk of one, with a row that fits and one that does not.
        {{0, 0, 1, 5}, {0, 39, 2, 6}, WHOLE_TABLE_A_TICK, NARROWED, TICK, {5, 1, 0, 0}},
        // CUT, with the same rows, once undone.
        {{0, 0, 1, 5}, {0, 39, 2, 6}, WHOLE_TABLE_A_TICK, NARROWED, TICK, {7, 0, 0, 0},
            {8, 0, 0, 0}, {7, 0, 0, 0}}
    };

    private ShortRunsTest() {
    }

    public static void main(String[] args) {
        Checks checks = new Checks("ShortRunsTest");
        for (int[][] beginning : BEGINNINGS) {
            lookBehind(checks, beginning);
        }
        checks.end();
    }

    private static void lookBehind(Checks checks, int[][] beginning) {
        Set<String> reached = new HashSet<>();
        Deque<int[][]> runs = new ArrayDeque<>();
        runs.add(beginning);
        while (!runs.isEmpty()) {
            int[][] run = runs.removeFirst();
            for (int[] call : CALLS) {
                int[][] longer = Arrays.copyOf(run, run.length + 1);
                longer[run.length] = call;
                if (reached.add(lookAt(checks, longer)) && reached.size() < MOST_STATES) {
                    runs.add(longer);
                }
            }
        }
    }

    /** Looks at the last call of a run, and at what is behind it; returns the whole state. */
    private static String lookAt(Checks checks, int[][] run) {
        TableChanger x = new TableChanger();
        Model model = new Model();
        String got = "";
        String want = "";
        for (int[] call : run) {
            got = Calls.answerOf(x, call);
            want = Calls.answerOf(model, call);
        }
        checks.due(Calls.text(run), got, want);
        checks.due(Calls.text(run) + ": all questions", Checks.state(x), model.state());
        return model.whole();
    }
}
