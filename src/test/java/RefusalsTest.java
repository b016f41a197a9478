import java.util.ArrayList;
import java.util.List;
import java.util.Map;
import java.util.TreeMap;
import java.util.TreeSet;

/**
 * "If several apply, the one that is named first in the throws clause is thrown. A call that
 * throws an exception changes nothing." and "Questions change nothing.": each call, with arguments
 * at the ends of their ranges and beyond, on objects in all phases. It throws just what the first
 * reason to refuse it asks, or nothing if there is no reason; and behind a call that throws, and
 * behind each question, all goes on as if there had been no such call.
 */
public final class RefusalsTest {
    private static final Checks CHECKS = new Checks("RefusalsTest");

    private static final int LEAST = Integer.MIN_VALUE;
    private static final int MOST = Integer.MAX_VALUE;
    private static final int[] KEYS = {LEAST, -1, 0, 10, 11, 12, 39, 40, MOST};
    private static final int[] COLUMNS = {LEAST, -1, 0, 2, 3, MOST};
    private static final int[] VALUES_A = {LEAST, -1, 0, 999, 1000, MOST};
    private static final int[] VALUES_B = {LEAST, -1, 0, 500, 501, 999, 1000, MOST};
    private static final int[] ALTERATIONS = {LEAST, -1, 0, 1, 2, 3, MOST};
    private static final int[] CHUNKS = {LEAST, -1, 0, 1, 40, 41, MOST};
    private static final int[] LAGS_SET = {LEAST, -1, 0, 100, 101, MOST};
    private static final int[] COUNTS = {LEAST, -1, 0, 1, 2, 3, 10, 11, 1000, 1001, MOST};
    private static final int[][] NOTHING = {};

    private static final String[] CALLS = {"insert", "update", "delete", "rekey", "start",
        "setPace", "tick", "cutOver", "undo", "finish", "giveUp", "row", "rows", "phase", "mark",
        "notes", "shadow", "shadowRows", "isRefused", "behind", "sum", "sumAtOnce"};
    private static final String FIRST_QUESTION = "row";
    private static final int FATES = 12;

    /** By call, the reasons that were found to hold together. */
    private static final Map<String, TreeSet<String>> MET = new TreeMap<>();

    private interface Maker {
        TableChanger make();
    }

    /** An object, and what the document says of it; b up to fit can be written. */
    private record Situation(String name, int phase, int mark, int notes, int fit,
            List<Integer> seen, Maker maker) {
        boolean sees(int key) {
            return seen.contains(key);
        }
    }

    private RefusalsTest() {
    }

    public static void main(String[] args) {
        for (Situation situation : situations()) {
            tryAllCalls(situation);
        }
        dueReasons();
        CHECKS.end();
    }

    // ---- the objects; with NARROW, 500, the rows 0 and 10 fit, the rows 11 and 39 do not

    private static TableChanger four() {
        return Made.table(0, 123, 45, 10, 999, 500, 11, 5, 501, 39, 0, 999);
    }

    private static TableChanger copied() {
        return Made.copied(four(), TableChanger.NARROW, 500);
    }

    private static TableChanger cut() {
        return Made.cut(four(), TableChanger.NARROW, 500);
    }

    private static List<Situation> situations() {
        List<Situation> all = new ArrayList<>();
        addIdle(all);
        addCopying(all);
        addCut(all);
        return all;
    }

    private static void addIdle(List<Situation> all) {
        List<Integer> none = List.of();
        List<Integer> four = List.of(0, 10, 11, 39);
        int idle = TableChanger.IDLE;
        all.add(new Situation("new", idle, -1, 0, 999, none, TableChanger::new));
        all.add(new Situation("IDLE, four rows", idle, -1, 0, 999, four, () -> {
            TableChanger x = four();
            x.setPace(3, 7);
            return x;
        }));
        all.add(new Situation("IDLE, full", idle, -1, 0, 999, everyKey(),
                () -> Made.full(999, 999)));
        all.add(new Situation("finished", idle, -1, 0, 999, List.of(0, 10), () -> {
            TableChanger x = cut();
            x.finish();
            return x;
        }));
        all.add(new Situation("given up", idle, -1, 0, 999, four, () -> {
            TableChanger x = copied();
            x.giveUp();
            return x;
        }));
    }

    private static void addCopying(List<Situation> all) {
        List<Integer> none = List.of();
        List<Integer> four = List.of(0, 10, 11, 39);
        int copying = TableChanger.COPYING;
        all.add(new Situation("COPYING, no rows, mark 0", copying, 0, 0, 999, none, () -> {
            TableChanger x = new TableChanger();
            x.start(TableChanger.NARROW, 500);
            return x;
        }));
        all.add(new Situation("COPYING, full, mark 0", copying, 0, 0, 999, everyKey(), () -> {
            TableChanger x = Made.full(999, 500);
            x.start(TableChanger.SCALE, 999);
            return x;
        }));
        all.add(new Situation("COPYING, mark 39, two notes", copying, 39, 2, 999,
                List.of(0, 11, 12, 39), () -> {
            TableChanger x = four();
            x.setPace(39, 7);
            x.start(TableChanger.NARROW, 500);
            x.tick(7);
            x.rekey(10, 12);
            return x;
        }));
        all.add(new Situation("COPYING, mark 40", copying, 40, 0, 999, four,
                RefusalsTest::copied));
        all.add(new Situation("COPYING, mark 40, three notes", copying, 40, 3, 999,
                List.of(0, 10, 12, 39), () -> {
            TableChanger x = copied();
            x.rekey(11, 12);
            x.update(10, 999, 501);
            return x;
        }));
        all.add(new Situation("undone, a note", copying, 40, 1, 999, List.of(0, 11, 39), () -> {
            TableChanger x = cut();
            x.undo();
            x.delete(10);
            return x;
        }));
    }

    private static void addCut(List<Situation> all) {
        int cut = TableChanger.CUT;
        all.add(new Situation("CUT, NARROW", cut, 40, 0, 500, List.of(0, 10),
                RefusalsTest::cut));
        all.add(new Situation("CUT, no rows", cut, 40, 0, 500, List.of(),
                () -> Made.cut(new TableChanger(), TableChanger.NARROW, 500)));
        all.add(new Situation("CUT, SPLIT", cut, 40, 0, 999, List.of(0, 10, 11, 39),
                () -> Made.cut(four(), TableChanger.SPLIT, 0)));
        all.add(new Situation("CUT, SCALE, full", cut, 40, 0, 999, everyKey(),
                () -> Made.cut(Made.full(999, 999), TableChanger.SCALE, 0)));
    }

    private static List<Integer> everyKey() {
        List<Integer> keys = new ArrayList<>();
        for (int key = 0; key < 40; key++) {
            keys.add(key);
        }
        return keys;
    }

    // ---- the calls

    private static int[][] arguments(String call) {
        switch (call) {
            case "insert": case "update": return new int[][] {KEYS, VALUES_A, VALUES_B};
            case "delete": case "row": case "isRefused": return new int[][] {KEYS};
            case "rekey": return new int[][] {KEYS, KEYS};
            case "start": return new int[][] {ALTERATIONS, VALUES_A};
            case "setPace": return new int[][] {CHUNKS, LAGS_SET};
            case "tick": case "cutOver": return new int[][] {COUNTS};
            case "shadow": return new int[][] {KEYS, COLUMNS};
            case "sum": case "sumAtOnce": return new int[][] {COLUMNS};
            default: return NOTHING;
        }
    }

    private static long answer(TableChanger x, String call, int[] v) {
        switch (call) {
            case "insert": x.insert(v[0], v[1], v[2]); return 0;
            case "update": x.update(v[0], v[1], v[2]); return 0;
            case "delete": return x.delete(v[0]);
            case "rekey": x.rekey(v[0], v[1]); return 0;
            case "start": x.start(v[0], v[1]); return 0;
            case "setPace": x.setPace(v[0], v[1]); return 0;
            case "tick": return x.tick(v[0]);
            case "cutOver": return x.cutOver(v[0]);
            case "undo": x.undo(); return 0;
            case "finish": return x.finish();
            case "giveUp": return x.giveUp();
            case "row": return x.row(v[0]);
            case "rows": return x.rows();
            case "phase": return x.phase();
            case "mark": return x.mark();
            case "notes": return x.notes();
            case "shadow": return x.shadow(v[0], v[1]);
            case "shadowRows": return x.shadowRows();
            case "isRefused": return x.isRefused(v[0]) ? 1 : 0;
            case "behind": return x.behind();
            case "sum": return x.sum(v[0]);
            case "sumAtOnce": return x.sumAtOnce(v[0]);
            default: throw new AssertionError(call);
        }
    }

    // ---- what the document says of them

    private static boolean isOutside(int value, int least, int greatest) {
        return value < least || value > greatest;
    }

    private static boolean isNoKey(int key) {
        return isOutside(key, 0, 39);
    }

    private static boolean isNoColumn(int column) {
        return isOutside(column, 0, 2);
    }

    private static boolean isNoRow(Situation s, int a, int b) {
        return isOutside(a, 0, 999) || isOutside(b, 0, s.fit);
    }

    /** The reasons to refuse the call that hold, in the order of its throws clause. */
    private static String reasons(Situation s, String call, int[] v) {
        switch (call) {
            case "insert":
                return index(isNoKey(v[0])) + argument(isNoRow(s, v[1], v[2]))
                        + state(s.sees(v[0]));
            case "update":
                return index(isNoKey(v[0])) + argument(isNoRow(s, v[1], v[2]))
                        + element(!s.sees(v[0]));
            case "delete":
                return index(isNoKey(v[0])) + element(!s.sees(v[0]));
            case "rekey":
                return index(isNoKey(v[0]) || isNoKey(v[1])) + argument(v[0] == v[1])
                        + element(!s.sees(v[0])) + state(s.sees(v[1]));
            case "start":
                return argument(isOutside(v[0], 0, 2) || isOutside(v[1], 0, 999))
                        + state(s.phase != TableChanger.IDLE);
            case "setPace":
                return argument(isOutside(v[0], 1, 40) || isOutside(v[1], 0, 100));
            case "tick":
                return argument(isOutside(v[0], 0, 1000))
                        + state(s.phase != TableChanger.COPYING);
            case "cutOver":
                return argument(isOutside(v[0], 0, 1000))
                        + state(s.phase != TableChanger.COPYING || s.mark != 40 || s.notes > v[0]);
            case "undo": case "finish":
                return state(s.phase != TableChanger.CUT);
            case "giveUp":
                return state(s.phase != TableChanger.COPYING);
            case "row": case "isRefused":
                return index(isNoKey(v[0]));
            case "shadow":
                return index(isNoKey(v[0]) || isNoColumn(v[1]));
            case "sum": case "sumAtOnce":
                return index(isNoColumn(v[0]));
            default:
                return "";
        }
    }

    private static String index(boolean holds) {
        return holds ? "I" : "";
    }

    private static String argument(boolean holds) {
        return holds ? "A" : "";
    }

    private static String element(boolean holds) {
        return holds ? "E" : "";
    }

    private static String state(boolean holds) {
        return holds ? "S" : "";
    }

    private static String thrownFor(String reasons) {
        switch (reasons.isEmpty() ? ' ' : reasons.charAt(0)) {
            case 'I': return Made.INDEX.getName();
            case 'A': return Made.ARGUMENT.getName();
            case 'E': return Made.ELEMENT.getName();
            case 'S': return Made.STATE.getName();
            default: return "nothing";
        }
    }

    // ---- trying them

    private static void tryAllCalls(Situation s) {
        String[] fates = new String[FATES];
        for (int fate = 0; fate < FATES; fate++) {
            fates[fate] = fate(s.maker.make(), fate);
        }
        boolean isQuestion = false;
        for (String call : CALLS) {
            isQuestion |= call.equals(FIRST_QUESTION);
            for (int[] v : combinations(arguments(call))) {
                tryCall(s, call, v, isQuestion, fates);
            }
        }
    }

    private static List<int[]> combinations(int[][] values) {
        List<int[]> all = new ArrayList<>();
        all.add(new int[values.length]);
        for (int place = 0; place < values.length; place++) {
            List<int[]> longer = new ArrayList<>();
            for (int[] some : all) {
                for (int value : values[place]) {
                    int[] more = some.clone();
                    more[place] = value;
                    longer.add(more);
                }
            }
            all = longer;
        }
        return all;
    }

    private static void tryCall(Situation s, String call, int[] v, boolean isQuestion,
            String[] fates) {
        String reasons = reasons(s, call, v);
        MET.computeIfAbsent(call, name -> new TreeSet<>()).add(reasons);
        String name = s.name + ": " + call + java.util.Arrays.toString(v);
        TableChanger x = s.maker.make();
        CHECKS.due(name + " throws", Checks.thrownBy(() -> answer(x, call, v)),
                thrownFor(reasons));
        if (!isQuestion && reasons.isEmpty()) {
            return;
        }
        CHECKS.due("the state behind " + name, fate(x, 0), fates[0]);
        for (int fate = 1; fate < FATES; fate++) {
            TableChanger again = s.maker.make();
            Checks.thrownBy(() -> answer(again, call, v));
            CHECKS.due("what comes (" + fate + ") behind " + name, fate(again, fate), fates[fate]);
        }
    }

    // ---- what cannot be asked comes to light by what is done then

    private static String fate(TableChanger x, int which) {
        switch (which) {
            case 0: return Checks.state(x);
            case 1: return ticks(x, 1) + Checks.state(x);
            case 2: return ticks(x, 2) + Checks.state(x);
            case 3: return ticks(x, 3) + Checks.state(x);
            case 4: return attempt(x, "cutOver", 1000) + Checks.state(x);
            case 5: return attempt(x, "undo") + Checks.state(x);
            case 6: return attempt(x, "finish") + Checks.state(x);
            case 7: return attempt(x, "giveUp") + Checks.state(x);
            case 8: return attempt(x, "start", 1, 400) + Checks.state(x);
            case 9: return rowsThatCome(x) + Checks.state(x);
            case 10: return attempt(x, "tick", 7) + attempt(x, "tick", 10) + Checks.state(x);
            default: return pace(x);
        }
    }

    private static String attempt(TableChanger x, String call, int... v) {
        long[] got = {0};
        String thrown = Checks.thrownBy(() -> got[0] = answer(x, call, v));
        return call + " " + got[0] + " throws " + thrown + "; ";
    }

    /** The notes, one by one. */
    private static String ticks(TableChanger x, int count) {
        StringBuilder text = new StringBuilder(attempt(x, "setPace", 1, 0));
        for (int tick = 0; tick < count; tick++) {
            text.append(attempt(x, "tick", 0));
        }
        return text.toString();
    }

    /** The alteration and the parameter, where no row told of them. */
    private static String rowsThatCome(TableChanger x) {
        return attempt(x, "insert", 20, 123, 500) + attempt(x, "insert", 21, 234, 501)
                + attempt(x, "update", 0, 345, 67);
    }

    /** The chunk and the greatest lag. */
    private static String pace(TableChanger x) {
        StringBuilder text = new StringBuilder(attempt(x, "finish") + attempt(x, "giveUp"));
        text.append(attempt(x, "start", 0, 0));
        for (int lag = 101; lag >= 0 && x.mark() == 0; lag--) {
            text.append(lag).append(attempt(x, "tick", lag));
        }
        return text.toString();
    }

    // ---- which reasons held together

    private static void dueReasons() {
        dueReasons("insert", "[, A, AS, I, IA, S]");
        dueReasons("update", "[, A, AE, E, IAE, IE]");
        dueReasons("delete", "[, E, IE]");
        dueReasons("rekey", "[, AE, AS, E, ES, I, IAE, IE, IES, S]");
        dueReasons("start", "[, A, AS, S]");
        dueReasons("setPace", "[, A]");
        dueReasons("tick", "[, A, AS, S]");
        dueReasons("cutOver", "[, A, AS, S]");
        for (String call : new String[] {"undo", "finish", "giveUp"}) {
            dueReasons(call, "[, S]");
        }
        for (String call : new String[] {"row", "shadow", "isRefused", "sum", "sumAtOnce"}) {
            dueReasons(call, "[, I]");
        }
    }

    private static void dueReasons(String call, String all) {
        CHECKS.due("the reasons met by " + call, MET.get(call).toString(), all);
    }
}
