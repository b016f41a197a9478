import java.util.ArrayDeque;
import java.util.Arrays;
import java.util.Deque;
import java.util.NoSuchElementException;
import java.util.Random;
import java.util.TreeMap;
import java.util.TreeSet;

/**
 * Long runs of calls, the same ones each time, against a plain model of the document that keeps
 * its tables in maps: each call answers or throws as the model does. A run makes up to 300 calls,
 * questions among them, and then all questions are asked: 512 calls at most.
 */
public final class ModelTest {
    private static final int RUNS = 6000;
    private static final int MOST_CALLS = 300;

    private ModelTest() {
    }

    public static void main(String[] args) {
        Checks checks = new Checks("ModelTest");
        for (int run = 0; run < RUNS; run++) {
            followRun(checks, run);
        }
        checks.end();
    }

    private static void followRun(Checks checks, int run) {
        Random random = new Random(run);
        TableChanger x = new TableChanger();
        Model model = new Model();
        // Few keys make clients meet, many fill the table; both are needed.
        int keys = run % 3 == 0 ? 40 : 4 + run % 7;
        int eager = run % 5;
        for (int call = 0; call < run % MOST_CALLS; call++) {
            int[] c = random.nextInt(3) == 0 ? nextQuestion(random, keys)
                    : nextCall(random, keys, eager);
            checks.due("run " + run + ", call " + call + " " + Arrays.toString(c),
                    answerOf(x, c), answerOf(model, c));
        }
        checks.due("run " + run + ": all questions", Checks.state(x), model.state());
    }

    /** A call as a number and three arguments, mostly within their ranges. */
    private static int[] nextCall(Random random, int keys, int eager) {
        int kind = random.nextInt(17 + 3 * eager);
        int b = random.nextInt(4) == 0 ? random.nextInt(1000) : random.nextInt(120);
        switch (kind) {
            case 0: case 1: case 2: case 3:
                return new int[] {0, key(random, keys), value(random), off(random, b)};
            case 4: case 5: case 6:
                return new int[] {1, key(random, keys), value(random), off(random, b)};
            case 7: case 8:
                return new int[] {2, key(random, keys), 0, 0};
            case 9: case 10: case 11:
                return new int[] {3, key(random, keys), key(random, keys), 0};
            case 12:
                return new int[] {4, off(random, random.nextInt(3)), off(random, b), 0};
            case 13:
                return new int[] {5, off(random, 1 + random.nextInt(40)),
                    off(random, random.nextInt(101)), 0};
            case 14:
                return new int[] {8 + random.nextInt(3), 0, 0, 0};
            case 15: case 16:
                return new int[] {7, off(random, random.nextInt(12)), 0, 0};
            default:
                return new int[] {6, off(random, random.nextInt(12)), 0, 0};
        }
    }

    private static int[] nextQuestion(Random random, int keys) {
        return new int[] {11 + random.nextInt(11), key(random, keys), random.nextInt(3), 0};
    }

    private static int off(Random random, int value) {
        int[] wrong = {-1, 3, 41, 101, 1000, 1001, Integer.MIN_VALUE, Integer.MAX_VALUE};
        return random.nextInt(40) == 0 ? wrong[random.nextInt(wrong.length)] : value;
    }

    private static int key(Random random, int keys) {
        return random.nextInt(60) == 0 ? (random.nextBoolean() ? -1 : 40)
                : 40 - keys + random.nextInt(keys);
    }

    private static int value(Random random) {
        return off(random, random.nextInt(1000));
    }

    private static String answerOf(TableChanger x, int[] c) {
        try {
            switch (c[0]) {
                case 0: x.insert(c[1], c[2], c[3]); return "done";
                case 1: x.update(c[1], c[2], c[3]); return "done";
                case 2: return "" + x.delete(c[1]);
                case 3: x.rekey(c[1], c[2]); return "done";
                case 4: x.start(c[1], c[2]); return "done";
                case 5: x.setPace(c[1], c[2]); return "done";
                case 6: return "" + x.tick(c[1]);
                case 7: return "" + x.cutOver(c[1]);
                case 8: x.undo(); return "done";
                case 9: return "" + x.finish();
                case 10: return "" + x.giveUp();
                default: return questionOf(x, c);
            }
        } catch (RuntimeException e) {
            return e.getClass().getName();
        }
    }

    private static String questionOf(TableChanger x, int[] c) {
        switch (c[0]) {
            case 11: return "" + x.row(c[1]);
            case 12: return "" + x.rows();
            case 13: return "" + x.phase();
            case 14: return "" + x.mark();
            case 15: return "" + x.notes();
            case 16: return "" + x.shadow(c[1], c[2]);
            case 17: return "" + x.shadowRows();
            case 18: return "" + x.isRefused(c[1]);
            case 19: return "" + x.behind();
            case 20: return "" + x.sum(c[2]);
            default: return "" + x.sumAtOnce(c[2]);
        }
    }

    private static String answerOf(Model model, int[] c) {
        try {
            switch (c[0]) {
                case 0: return model.write(c[1], c[2], c[3], true);
                case 1: return model.write(c[1], c[2], c[3], false);
                case 2: return model.delete(c[1]);
                case 3: return model.rekey(c[1], c[2]);
                case 4: return model.start(c[1], c[2]);
                case 5: return model.setPace(c[1], c[2]);
                case 6: return model.tick(c[1]);
                case 7: return model.cutOver(c[1]);
                case 8: return model.undo();
                case 9: return model.finish();
                case 10: return model.giveUp();
                default: return questionOf(model, c);
            }
        } catch (RuntimeException e) {
            return e.getClass().getName();
        }
    }

    private static String questionOf(Model model, int[] c) {
        switch (c[0]) {
            case 11: return "" + model.row(c[1]);
            case 12: return "" + model.seen().size();
            case 13: return "" + model.phase;
            case 14: return "" + model.mark();
            case 15: return "" + model.notes.size();
            case 16: return "" + model.shadow(c[1], c[2]);
            case 17: return "" + model.shadow.size();
            case 18: return "" + model.isRefused(c[1]);
            case 19: return "" + model.behind();
            case 20: return "" + Model.sum(model.shadow, c[2]);
            default: return "" + Model.sum(model.atOnce(), c[2]);
        }
    }

    /** The document's words, with maps. */
    private static final class Model {
        private final TreeMap<Integer, int[]> old = new TreeMap<>();
        private final TreeMap<Integer, int[]> shadow = new TreeMap<>();
        private final TreeSet<Integer> refused = new TreeSet<>();
        private final Deque<Integer> notes = new ArrayDeque<>();
        private int phase = TableChanger.IDLE;
        private int mark;
        private int alteration;
        private int parameter;
        private int chunk = 8;
        private int greatest = 10;

        private int[] alter(int[] row) {
            if (row == null || alteration == TableChanger.NARROW && row[1] > parameter) {
                return null;
            }
            if (alteration == TableChanger.SPLIT) {
                return new int[] {row[0] / 100, row[0] % 100, row[1]};
            }
            return alteration == TableChanger.NARROW ? new int[] {row[0], row[1], 0}
                    : new int[] {row[0], row[1] * parameter, ("" + row[1]).length()};
        }

        private TreeMap<Integer, int[]> seen() {
            TreeMap<Integer, int[]> seen = new TreeMap<>(old);
            if (phase == TableChanger.CUT) {
                seen.keySet().retainAll(shadow.keySet());
            }
            return seen;
        }

        private void bring(int key) {
            int[] altered = alter(old.get(key));
            shadow.remove(key);
            refused.remove(key);
            if (altered != null) {
                shadow.put(key, altered);
            } else if (old.containsKey(key)) {
                refused.add(key);
            }
        }

        private void written(int key) {
            if (phase == TableChanger.COPYING) {
                notes.addLast(key);
            } else if (phase == TableChanger.CUT) {
                bring(key);
            }
        }

        private static void need(boolean holds, RuntimeException otherwise) {
            if (!holds) {
                throw otherwise;
            }
        }

        private static void needKey(int key) {
            need(key >= 0 && key < 40, new IndexOutOfBoundsException());
        }

        private static void needRange(int value, int least, int greatest) {
            need(value >= least && value <= greatest, new IllegalArgumentException());
        }

        private void needPhase(int wanted) {
            need(phase == wanted, new IllegalStateException());
        }

        String write(int key, int a, int b, boolean isNew) {
            needKey(key);
            needRange(a, 0, 999);
            needRange(b, 0, 999);
            need(phase != TableChanger.CUT || alter(new int[] {a, b}) != null,
                    new IllegalArgumentException());
            need(seen().containsKey(key) != isNew,
                    isNew ? new IllegalStateException() : new NoSuchElementException());
            old.put(key, new int[] {a, b});
            written(key);
            return "done";
        }

        String delete(int key) {
            needKey(key);
            need(seen().containsKey(key), new NoSuchElementException());
            int[] row = old.remove(key);
            written(key);
            return "" + (1000 * row[0] + row[1]);
        }

        String rekey(int key, int to) {
            needKey(key);
            needKey(to);
            need(key != to, new IllegalArgumentException());
            need(seen().containsKey(key), new NoSuchElementException());
            need(!seen().containsKey(to), new IllegalStateException());
            old.put(to, old.remove(key));
            written(key < to ? key : to);
            written(key < to ? to : key);
            return "done";
        }

        String start(int alteration, int parameter) {
            needRange(alteration, 0, 2);
            needRange(parameter, 0, 999);
            needPhase(TableChanger.IDLE);
            this.alteration = alteration;
            this.parameter = parameter;
            phase = TableChanger.COPYING;
            mark = 0;
            shadow.clear();
            refused.clear();
            notes.clear();
            return "done";
        }

        String setPace(int chunk, int lag) {
            needRange(chunk, 1, 40);
            needRange(lag, 0, 100);
            this.chunk = chunk;
            greatest = lag;
            return "done";
        }

        String tick(int lag) {
            needRange(lag, 0, 1000);
            needPhase(TableChanger.COPYING);
            boolean copies = mark != 40;
            int brought = 0;
            while (lag <= greatest && brought < chunk && (copies ? mark < 40 : !notes.isEmpty())) {
                bring(copies ? mark++ : notes.removeFirst());
                brought++;
            }
            return "" + brought;
        }

        String cutOver(int most) {
            needRange(most, 0, 1000);
            needPhase(TableChanger.COPYING);
            need(mark == 40 && notes.size() <= most, new IllegalStateException());
            int played = notes.size();
            notes.forEach(this::bring);
            notes.clear();
            phase = TableChanger.CUT;
            return "" + played;
        }

        String undo() {
            needPhase(TableChanger.CUT);
            phase = TableChanger.COPYING;
            mark = 40;
            notes.clear();
            return "done";
        }

        String finish() {
            needPhase(TableChanger.CUT);
            int before = old.size();
            old.keySet().retainAll(shadow.keySet());
            end();
            return "" + (before - old.size());
        }

        String giveUp() {
            needPhase(TableChanger.COPYING);
            int had = shadow.size();
            end();
            return "" + had;
        }

        private void end() {
            phase = TableChanger.IDLE;
            shadow.clear();
            refused.clear();
            notes.clear();
        }

        private TreeMap<Integer, int[]> atOnce() {
            TreeMap<Integer, int[]> all = new TreeMap<>();
            old.forEach((key, row) -> {
                if (phase != TableChanger.IDLE && alter(row) != null) {
                    all.put(key, alter(row));
                }
            });
            return all;
        }

        private int behind() {
            TreeMap<Integer, int[]> due = atOnce();
            int behind = 0;
            for (int key = 0; key < 40; key++) {
                if (!Arrays.equals(shadow.get(key), due.get(key))) {
                    behind++;
                }
            }
            return behind;
        }

        private static int sum(TreeMap<Integer, int[]> rows, int column) {
            return rows.values().stream().mapToInt(row -> row[column]).sum();
        }

        private int row(int key) {
            needKey(key);
            int[] row = seen().get(key);
            return row == null ? -1 : 1000 * row[0] + row[1];
        }

        private int mark() {
            return phase == TableChanger.IDLE ? -1 : mark;
        }

        private int shadow(int key, int column) {
            needKey(key);
            return shadow.containsKey(key) ? shadow.get(key)[column] : -1;
        }

        private boolean isRefused(int key) {
            needKey(key);
            return refused.contains(key);
        }

        /** In the form of Checks.state. */
        String state() {
            StringBuilder text = new StringBuilder();
            text.append("phase ").append(phase).append(" mark ").append(mark());
            text.append(" notes ").append(notes.size()).append(" behind ").append(behind());
            text.append(" rows ").append(seen().size());
            text.append(" shadowRows ").append(shadow.size());
            for (int column = 0; column < 3; column++) {
                text.append(" sum ").append(sum(shadow, column));
                text.append('/').append(sum(atOnce(), column));
            }
            for (int key = 0; key < 40; key++) {
                text.append("; ").append(key).append(": ").append(row(key));
                text.append(isRefused(key) ? " refused" : "");
                for (int column = 0; column < 3; column++) {
                    text.append(' ').append(shadow(key, column));
                }
            }
            return text.toString();
        }
    }
}
