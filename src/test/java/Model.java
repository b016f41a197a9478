import java.util.ArrayDeque;
import java.util.Arrays;
import java.util.Deque;
import java.util.NoSuchElementException;
import java.util.TreeMap;
import java.util.TreeSet;

/** A plain model of the document's words that keeps its tables in maps. */
final class Model {
    private final TreeMap<Integer, int[]> old = new TreeMap<>();
    final TreeMap<Integer, int[]> shadow = new TreeMap<>();
    private final TreeSet<Integer> refused = new TreeSet<>();
    final Deque<Integer> notes = new ArrayDeque<>();
    int phase = TableChanger.IDLE;
    private int mark;
    private int alteration;
    private int parameter;
    private int chunk = 8;
    private int greatest = 10;

    private int[] alter(int[] row) {
        if (row == null || alteration == TableChanger.NARROW && row[1] > parameter) {
            return null;
        }
        if (alteration == TableChanger.SPLIT) {
            return new int[] {row[0] / 100, row[0] % 100, row[1]};
        }
        return alteration == TableChanger.NARROW ? new int[] {row[0], row[1], 0}
                : new int[] {row[0], row[1] * parameter, ("" + row[1]).length()};
    }

    TreeMap<Integer, int[]> seen() {
        TreeMap<Integer, int[]> seen = new TreeMap<>(old);
        if (phase == TableChanger.CUT) {
            seen.keySet().retainAll(shadow.keySet());
        }
        return seen;
    }

    private void bring(int key) {
        int[] altered = alter(old.get(key));
        shadow.remove(key);
        refused.remove(key);
        if (altered != null) {
            shadow.put(key, altered);
        } else if (old.containsKey(key)) {
            refused.add(key);
        }
    }

    private void written(int key) {
        if (phase == TableChanger.COPYING) {
            notes.addLast(key);
        } else if (phase == TableChanger.CUT) {
            bring(key);
        }
    }

    private static void need(boolean holds, RuntimeException otherwise) {
        if (!holds) {
            throw otherwise;
        }
    }

    private static void needKey(int key) {
        if (key < 0 || key > 39) {
            throw new IndexOutOfBoundsException();
        }
    }

    private static void needRange(int value, int least, int greatest) {
        if (value < least || value > greatest) {
            throw new IllegalArgumentException();
        }
    }

    private void needPhase(int wanted) {
        need(phase == wanted, new IllegalStateException());
    }

    String write(int key, int a, int b, boolean isNew) {
        needKey(key);
        needRange(a, 0, 999);
        needRange(b, 0, 999);
        need(phase != TableChanger.CUT || alter(new int[] {a, b}) != null,
                new IllegalArgumentException());
        need(seen().containsKey(key) != isNew,
                isNew ? new IllegalStateException() : new NoSuchElementException());
        old.put(key, new int[] {a, b});
        written(key);
        return "done";
    }

    String delete(int key) {
        needKey(key);
        need(seen().containsKey(key), new NoSuchElementException());
        int[] row = old.remove(key);
        written(key);
        return "" + (1000 * row[0] + row[1]);
    }

    String rekey(int key, int to) {
        needKey(key);
        needKey(to);
        need(key != to, new IllegalArgumentException());
        need(seen().containsKey(key), new NoSuchElementException());
        need(!seen().containsKey(to), new IllegalStateException());
        old.put(to, old.remove(key));
        written(key < to ? key : to);
        written(key < to ? to : key);
        return "done";
    }

    String start(int alteration, int parameter) {
        needRange(alteration, 0, 2);
        needRange(parameter, 0, 999);
        needPhase(TableChanger.IDLE);
        this.alteration = alteration;
        this.parameter = parameter;
        phase = TableChanger.COPYING;
        mark = 0;
        shadow.clear();
        refused.clear();
        notes.clear();
        return "done";
    }

    String setPace(int chunk, int lag) {
        needRange(chunk, 1, 40);
        needRange(lag, 0, 100);
        this.chunk = chunk;
        greatest = lag;
        return "done";
    }

    String tick(int lag) {
        needRange(lag, 0, 1000);
        needPhase(TableChanger.COPYING);
        boolean copies = mark != 40;
        int brought = 0;
        while (lag <= greatest && brought < chunk && (copies ? mark < 40 : !notes.isEmpty())) {
            bring(copies ? mark++ : notes.removeFirst());
            brought++;
        }
        return "" + brought;
    }

    String cutOver(int most) {
        needRange(most, 0, 1000);
        needPhase(TableChanger.COPYING);
        need(mark == 40 && notes.size() <= most, new IllegalStateException());
        int played = notes.size();
        notes.forEach(this::bring);
        notes.clear();
        phase = TableChanger.CUT;
        return "" + played;
    }

    String undo() {
        needPhase(TableChanger.CUT);
        phase = TableChanger.COPYING;
        mark = 40;
        notes.clear();
        return "done";
    }

    String finish() {
        needPhase(TableChanger.CUT);
        int before = old.size();
        old.keySet().retainAll(shadow.keySet());
        end();
        return "" + (before - old.size());
    }

    String giveUp() {
        needPhase(TableChanger.COPYING);
        int had = shadow.size();
        end();
        return "" + had;
    }

    private void end() {
        phase = TableChanger.IDLE;
        shadow.clear();
        refused.clear();
        notes.clear();
    }

    TreeMap<Integer, int[]> atOnce() {
        TreeMap<Integer, int[]> all = new TreeMap<>();
        old.forEach((key, row) -> {
            if (phase != TableChanger.IDLE && alter(row) != null) {
                all.put(key, alter(row));
            }
        });
        return all;
    }

    int behind() {
        TreeMap<Integer, int[]> due = atOnce();
        int behind = 0;
        for (int key = 0; key < 40; key++) {
            if (!Arrays.equals(shadow.get(key), due.get(key))) {
                behind++;
            }
        }
        return behind;
    }

    static int sum(TreeMap<Integer, int[]> rows, int column) {
        return rows.values().stream().mapToInt(row -> row[column]).sum();
    }

    int row(int key) {
        needKey(key);
        int[] row = seen().get(key);
        return row == null ? -1 : 1000 * row[0] + row[1];
    }

    int mark() {
        return phase == TableChanger.IDLE ? -1 : mark;
    }

    int shadow(int key, int column) {
        needKey(key);
        return shadow.containsKey(key) ? shadow.get(key)[column] : -1;
    }

    boolean isRefused(int key) {
        needKey(key);
        return refused.contains(key);
    }

    /** In the form of Checks.state. */
    String state() {
        StringBuilder text = new StringBuilder();
        text.append("phase ").append(phase).append(" mark ").append(mark());
        text.append(" notes ").append(notes.size()).append(" behind ").append(behind());
        text.append(" rows ").append(seen().size());
        text.append(" shadowRows ").append(shadow.size());
        for (int column = 0; column < 3; column++) {
            text.append(" sum ").append(sum(shadow, column));
            text.append('/').append(sum(atOnce(), column));
        }
        for (int key = 0; key < 40; key++) {
            text.append("; ").append(key).append(": ").append(row(key));
            text.append(isRefused(key) ? " refused" : "");
            for (int column = 0; column < 3; column++) {
                text.append(' ').append(shadow(key, column));
            }
        }
        return text.toString();
    }

    /** The same, and what no question tells but later calls can bring to light. */
    String whole() {
        StringBuilder text = new StringBuilder(state()).append(notes);
        old.forEach((key, row) -> text.append(' ').append(key).append(Arrays.toString(row)));
        text.append(" pace ").append(chunk).append(' ').append(greatest);
        if (phase != TableChanger.IDLE) {
            text.append(" by ").append(alteration).append(' ').append(parameter);
        }
        return text.toString();
    }
}
