/** The sentences of the section 'Tables' at their edges, and those on what the questions answer. */
public final class TablesTest {
    private static final Checks CHECKS = new Checks("TablesTest");
    private static final int NONE = TableChanger.NONE;
    private static final int SPLIT = TableChanger.SPLIT;
    private static final int NARROW = TableChanger.NARROW;
    private static final int SCALE = TableChanger.SCALE;

    private TablesTest() {
    }

    public static void main(String[] args) {
        calls();
        newObject();
        keysThatAreWritten();
        keysThatAreAsked();
        columnA();
        columnB();
        split();
        splitWithoutParameter();
        narrow();
        narrowToTheLeastAndTheGreatest();
        scaleTimes();
        scaleDigits();
        alterations();
        parameters();
        phases();
        phaseWithoutShadow();
        shadowOfANewChange();
        rowAtTheEdges();
        rowsAtTheEdges();
        markAtTheEdges();
        shadowAtTheEdges();
        columns();
        shadowRowsAtTheEdges();
        behindAtTheEdges();
        behindInOneColumn();
        behindWithoutADifference();
        sumAtTheEdges();
        sumAtOnceAtTheEdges();
        CHECKS.end();
    }

    // ---- an object

    private static void calls() {
        CHECKS.by("An object is used for at most 512 calls");
        TableChanger x = Made.table(0, 12, 34);
        x.start(SPLIT, 0);
        for (int call = 3; call < 512; call++) {
            x.rekey(call % 2 == 1 ? 0 : 39, call % 2 == 1 ? 39 : 0);
        }
        CHECKS.due("the 512th call, behind 509 that note two keys each", x.notes(), 1018);
        TableChanger y = Made.copied(Made.table(0, 12, 34), SPLIT, 0);
        for (int call = 5; call < 511; call++) {
            y.rekey(call % 2 == 1 ? 0 : 39, call % 2 == 1 ? 39 : 0);
        }
        CHECKS.due("the 511th call", y.tick(0), 40);
        CHECKS.due("the 512th call", y.notes(), 972);
    }

    private static void newObject() {
        CHECKS.by("Makes an empty old table.");
        TableChanger x = new TableChanger();
        CHECKS.due("rows", x.rows(), 0);
        for (int key = 0; key < 40; key++) {
            CHECKS.due("row", x.row(key), NONE);
            x.insert(key, 1, 1);
        }
        TableChanger other = new TableChanger();
        CHECKS.due("rows of another object", other.rows(), 0);
    }

    // ---- rows

    private static void keysThatAreWritten() {
        CHECKS.by("The old table has rows with a key, 0 to 39");
        TableChanger x = Made.table(0, 1, 2, 39, 3, 4);
        x.update(0, 5, 6);
        x.update(39, 7, 8);
        CHECKS.due("row(0)", x.row(0), 5006);
        CHECKS.due("row(39)", x.row(39), 7008);
        CHECKS.due("delete(0)", x.delete(0), 5006);
        x.rekey(39, 0);
        CHECKS.due("row(0)", x.row(0), 7008);
        x.rekey(0, 39);
        CHECKS.due("row(39)", x.row(39), 7008);
        CHECKS.due("delete(39)", x.delete(39), 7008);
        CHECKS.due("rows", x.rows(), 0);
        for (int no : new int[] {-1, 40, Integer.MIN_VALUE, Integer.MAX_VALUE}) {
            CHECKS.refused("insert(" + no + ")", Made.INDEX, () -> x.insert(no, 1, 1));
            CHECKS.refused("update(" + no + ")", Made.INDEX, () -> x.update(no, 1, 1));
            CHECKS.refused("delete(" + no + ")", Made.INDEX, () -> x.delete(no));
            CHECKS.refused("rekey(" + no + ", 1)", Made.INDEX, () -> x.rekey(no, 1));
            CHECKS.refused("rekey(1, " + no + ")", Made.INDEX, () -> x.rekey(1, no));
        }
    }

    private static void keysThatAreAsked() {
        CHECKS.by("IndexOutOfBoundsException if there is no such key");
        TableChanger x = Made.copied(Made.table(0, 1, 700, 39, 3, 700), NARROW, 500);
        CHECKS.due("row(0)", x.row(0), 1700);
        CHECKS.due("row(39)", x.row(39), 3700);
        CHECKS.due("isRefused(0)", x.isRefused(0));
        CHECKS.due("isRefused(39)", x.isRefused(39));
        CHECKS.due("shadow(0, 0)", x.shadow(0, 0), NONE);
        CHECKS.due("shadow(39, 2)", x.shadow(39, 2), NONE);
        for (int no : new int[] {-1, 40, Integer.MIN_VALUE, Integer.MAX_VALUE}) {
            CHECKS.refused("row(" + no + ")", Made.INDEX, () -> x.row(no));
            CHECKS.refused("isRefused(" + no + ")", Made.INDEX, () -> x.isRefused(no));
            CHECKS.refused("shadow(" + no + ", 0)", Made.INDEX, () -> x.shadow(no, 0));
        }
    }

    private static void columnA() {
        CHECKS.by("the columns a and b, 0 to 999 each: a");
        TableChanger x = Made.table(1, 0, 5, 2, 999, 5);
        CHECKS.due("the least", x.row(1), 5);
        CHECKS.due("the greatest", x.row(2), 999005);
        x.update(1, 999, 5);
        x.update(2, 0, 5);
        CHECKS.due("the greatest", x.row(1), 999005);
        CHECKS.due("the least", x.row(2), 5);
        for (int no : new int[] {-1, 1000, Integer.MIN_VALUE, Integer.MAX_VALUE}) {
            CHECKS.refused("insert, a " + no, Made.ARGUMENT, () -> x.insert(3, no, 5));
            CHECKS.refused("update, a " + no, Made.ARGUMENT, () -> x.update(1, no, 5));
        }
        CHECKS.due("rows", x.rows(), 2);
    }

    private static void columnB() {
        CHECKS.by("the columns a and b, 0 to 999 each: b");
        TableChanger x = Made.table(1, 5, 0, 2, 5, 999);
        CHECKS.due("the least", x.row(1), 5000);
        CHECKS.due("the greatest", x.row(2), 5999);
        x.update(1, 5, 999);
        x.update(2, 5, 0);
        CHECKS.due("the greatest", x.row(1), 5999);
        CHECKS.due("the least", x.row(2), 5000);
        for (int no : new int[] {-1, 1000, Integer.MIN_VALUE, Integer.MAX_VALUE}) {
            CHECKS.refused("insert, b " + no, Made.ARGUMENT, () -> x.insert(3, 5, no));
            CHECKS.refused("update, b " + no, Made.ARGUMENT, () -> x.update(1, 5, no));
        }
        CHECKS.due("rows", x.rows(), 2);
    }

    // ---- alterations

    private static void split() {
        CHECKS.by("SPLIT: a divided by 100, the remainder of a by 100, and b");
        int[] a = {0, 1, 99, 100, 101, 199, 200, 899, 900, 998, 999};
        int[] hundreds = {0, 0, 0, 1, 1, 1, 2, 8, 9, 9, 9};
        int[] rest = {0, 1, 99, 0, 1, 99, 0, 99, 0, 98, 99};
        TableChanger x = new TableChanger();
        for (int i = 0; i < a.length; i++) {
            x.insert(i, a[i], i % 2 * 999);
        }
        Made.copied(x, SPLIT, 0);
        for (int i = 0; i < a.length; i++) {
            CHECKS.dueShadow(x, i, hundreds[i], rest[i], i % 2 * 999);
        }
    }

    private static void splitWithoutParameter() {
        CHECKS.by("SPLIT: the parameter is not used");
        for (int parameter : new int[] {0, 1, 500, 999}) {
            TableChanger x = Made.copied(Made.table(0, 999, 999, 39, 0, 0), SPLIT, parameter);
            CHECKS.dueShadow(x, 0, 9, 99, 999);
            CHECKS.dueShadow(x, 39, 0, 0, 0);
            CHECKS.due("none is refused", !x.isRefused(0) && !x.isRefused(39));
        }
    }

    private static void narrow() {
        CHECKS.by("NARROW: a, b and 0, if b is at most the parameter; "
                + "otherwise the row does not fit");
        for (int parameter : new int[] {1, 10, 500, 998}) {
            TableChanger x = Made.table(0, 0, parameter - 1, 1, 999, parameter,
                    2, 999, parameter + 1, 3, 7, 0, 4, 0, 999);
            Made.copied(x, NARROW, parameter);
            CHECKS.dueShadow(x, 0, 0, parameter - 1, 0);
            CHECKS.dueShadow(x, 1, 999, parameter, 0);
            CHECKS.dueNoShadow(x, 2);
            CHECKS.dueShadow(x, 3, 7, 0, 0);
            CHECKS.dueNoShadow(x, 4);
            CHECKS.due("at most", !x.isRefused(0) && !x.isRefused(1) && !x.isRefused(3));
            CHECKS.due("not at most", x.isRefused(2) && x.isRefused(4));
        }
    }

    private static void narrowToTheLeastAndTheGreatest() {
        CHECKS.by("NARROW: b is at most the parameter, which is 0 or 999");
        TableChanger least = Made.copied(Made.table(0, 999, 0, 1, 0, 1), NARROW, 0);
        CHECKS.dueShadow(least, 0, 999, 0, 0);
        CHECKS.dueNoShadow(least, 1);
        CHECKS.due("refused", !least.isRefused(0) && least.isRefused(1));
        TableChanger greatest = Made.copied(Made.full(0, 999), NARROW, 999);
        CHECKS.due("shadowRows", greatest.shadowRows(), 40);
        CHECKS.dueShadow(greatest, 39, 0, 999, 0);
    }

    private static void scaleTimes() {
        CHECKS.by("SCALE: a, b times the parameter");
        for (int parameter : new int[] {0, 1, 2, 998, 999}) {
            TableChanger x = Made.table(0, 0, 0, 1, 999, 1, 2, 1, 998, 39, 500, 999);
            Made.copied(x, SCALE, parameter);
            CHECKS.dueShadow(x, 0, 0, 0, 1);
            CHECKS.dueShadow(x, 1, 999, parameter, 1);
            CHECKS.dueShadow(x, 2, 1, 998 * parameter, 3);
            CHECKS.dueShadow(x, 39, 500, 999 * parameter, 3);
            CHECKS.due("all fit", x.behind() == 0 && x.shadowRows() == 4);
        }
    }

    private static void scaleDigits() {
        CHECKS.by("SCALE: the number of digits of b (of 0 it is 1)");
        int[] b = {0, 1, 9, 10, 11, 99, 100, 101, 999};
        int[] digits = {1, 1, 1, 2, 2, 2, 3, 3, 3};
        TableChanger x = new TableChanger();
        for (int i = 0; i < b.length; i++) {
            x.insert(i, 1, b[i]);
        }
        Made.copied(x, SCALE, 0);
        for (int i = 0; i < b.length; i++) {
            CHECKS.dueShadow(x, i, 1, 0, digits[i]);
        }
    }

    private static void alterations() {
        CHECKS.by("alteration: SPLIT, NARROW or SCALE");
        TableChanger x = new TableChanger();
        for (int no : new int[] {-1, 3, Integer.MIN_VALUE, Integer.MAX_VALUE}) {
            CHECKS.refused("start(" + no + ", 0)", Made.ARGUMENT, () -> x.start(no, 0));
        }
        CHECKS.due("phase", x.phase(), TableChanger.IDLE);
        for (int alteration : new int[] {0, 1, 2}) {
            x.start(alteration, 0);
            CHECKS.due("phase", x.phase(), TableChanger.COPYING);
            x.giveUp();
        }
    }

    private static void parameters() {
        CHECKS.by("parameter: 0 to 999");
        for (int alteration : new int[] {SPLIT, NARROW, SCALE}) {
            TableChanger x = new TableChanger();
            for (int no : new int[] {-1, 1000, Integer.MIN_VALUE, Integer.MAX_VALUE}) {
                CHECKS.refused("start(" + alteration + ", " + no + ")", Made.ARGUMENT,
                        () -> x.start(alteration, no));
            }
            CHECKS.due("phase", x.phase(), TableChanger.IDLE);
            x.start(alteration, 0);
            CHECKS.due("phase, parameter 0", x.phase(), TableChanger.COPYING);
            x.giveUp();
            x.start(alteration, 999);
            CHECKS.due("phase, parameter 999", x.phase(), TableChanger.COPYING);
        }
    }

    // ---- phases

    private static void phases() {
        CHECKS.by("When a change is started, it is COPYING; when it is cut over, it is CUT, until "
                + "it is undone or finished.");
        TableChanger x = new TableChanger();
        CHECKS.due("at first", x.phase(), TableChanger.IDLE);
        Made.copied(x, SPLIT, 0);
        CHECKS.due("started, also when all is copied", x.phase(), TableChanger.COPYING);
        x.cutOver(0);
        CHECKS.due("cut over", x.phase(), TableChanger.CUT);
        x.insert(0, 1, 1);
        x.delete(0);
        CHECKS.due("cut over, and written", x.phase(), TableChanger.CUT);
        x.undo();
        CHECKS.due("undone", x.phase(), TableChanger.COPYING);
        x.cutOver(0);
        CHECKS.due("cut over again", x.phase(), TableChanger.CUT);
        x.finish();
        CHECKS.due("finished", x.phase(), TableChanger.IDLE);
        x.start(SPLIT, 0);
        CHECKS.due("started again", x.phase(), TableChanger.COPYING);
        x.giveUp();
        CHECKS.due("given up", x.phase(), TableChanger.IDLE);
    }

    private static void phaseWithoutShadow() {
        CHECKS.by("The phase is IDLE at first, without a shadow.");
        TableChanger x = Made.table(0, 1, 1, 39, 999, 999);
        CHECKS.due("shadowRows", x.shadowRows(), 0);
        CHECKS.due("behind", x.behind(), 0);
        CHECKS.dueNoShadow(x, 0);
        CHECKS.dueNoShadow(x, 39);
        CHECKS.dueSums(x, 0, 0, 0);
        CHECKS.dueSumsAtOnce(x, 0, 0, 0);
        CHECKS.due("notes", x.notes(), 0);
    }

    private static void shadowOfANewChange() {
        CHECKS.by("When a change is started, the shadow is empty");
        TableChanger x = Made.full(999, 999);
        x.start(SCALE, 999);
        CHECKS.due("shadowRows", x.shadowRows(), 0);
        CHECKS.dueSums(x, 0, 0, 0);
        x.setPace(40, 0);
        x.tick(0);
        x.giveUp();
        x.start(SCALE, 999);
        CHECKS.due("shadowRows behind a change that was given up", x.shadowRows(), 0);
        x.tick(0);
        x.cutOver(0);
        x.finish();
        x.start(SCALE, 999);
        CHECKS.due("shadowRows behind a change that was finished", x.shadowRows(), 0);
        CHECKS.dueNoShadow(x, 0);
        CHECKS.dueNoShadow(x, 39);
    }

    // ---- what the questions answer

    private static void rowAtTheEdges() {
        CHECKS.by("1000 times its a, and its b, together; NONE if they see none");
        TableChanger x = Made.table(0, 0, 0, 1, 0, 999, 2, 999, 0, 39, 999, 999);
        CHECKS.due("a row of zeros", x.row(0), 0);
        CHECKS.due("b alone", x.row(1), 999);
        CHECKS.due("a alone", x.row(2), 999000);
        CHECKS.due("the greatest", x.row(39), 999999);
        CHECKS.due("no row", x.row(38), -1);
        CHECKS.due("delete of zeros", x.delete(0), 0);
        CHECKS.due("delete of the greatest", x.delete(39), 999999);
        CHECKS.due("no row any more", x.row(0) == -1 && x.row(39) == -1);
    }

    private static void rowsAtTheEdges() {
        CHECKS.by("Returns how many rows clients see.");
        TableChanger x = new TableChanger();
        CHECKS.due("none", x.rows(), 0);
        for (int key = 0; key < 40; key++) {
            x.insert(key, 0, 0);
            CHECKS.due("rows", x.rows(), key + 1);
        }
        for (int key = 39; key >= 0; key--) {
            x.delete(key);
            CHECKS.due("rows", x.rows(), key);
        }
    }

    private static void markAtTheEdges() {
        CHECKS.by("Returns the mark; NONE in the phase IDLE.");
        TableChanger x = new TableChanger();
        CHECKS.due("new", x.mark(), -1);
        x.start(SPLIT, 0);
        CHECKS.due("started", x.mark(), 0);
        x.setPace(39, 0);
        x.tick(0);
        CHECKS.due("before the last key", x.mark(), 39);
        x.giveUp();
        CHECKS.due("given up", x.mark(), -1);
        x.start(SPLIT, 0);
        CHECKS.due("started again", x.mark(), 0);
        x.tick(0);
        x.tick(0);
        CHECKS.due("behind the last key", x.mark(), 40);
        x.cutOver(0);
        CHECKS.due("cut over", x.mark(), 40);
        x.finish();
        CHECKS.due("finished", x.mark(), -1);
    }

    private static void shadowAtTheEdges() {
        CHECKS.by("the number; NONE if the shadow has no row with this key");
        TableChanger x = Made.copied(Made.table(0, 0, 0, 39, 0, 1), NARROW, 0);
        CHECKS.dueShadow(x, 0, 0, 0, 0);
        CHECKS.dueShadow(x, 1, -1, -1, -1);
        CHECKS.dueShadow(x, 39, -1, -1, -1);
        x.giveUp();
        CHECKS.dueShadow(x, 0, -1, -1, -1);
    }

    private static void columns() {
        CHECKS.by("column: 0 to 2");
        TableChanger idle = new TableChanger();
        TableChanger copied = Made.copied(Made.table(0, 234, 5), SPLIT, 0);
        TableChanger cut = Made.cut(Made.table(0, 234, 5), SPLIT, 0);
        for (TableChanger x : new TableChanger[] {idle, copied, cut}) {
            for (int no : new int[] {-1, 3, Integer.MIN_VALUE, Integer.MAX_VALUE}) {
                CHECKS.refused("shadow(0, " + no + ")", Made.INDEX, () -> x.shadow(0, no));
                CHECKS.refused("sum(" + no + ")", Made.INDEX, () -> x.sum(no));
                CHECKS.refused("sumAtOnce(" + no + ")", Made.INDEX, () -> x.sumAtOnce(no));
            }
        }
        CHECKS.dueShadow(copied, 0, 2, 34, 5);
        CHECKS.dueSums(cut, 2, 34, 5);
        CHECKS.dueSumsAtOnce(cut, 2, 34, 5);
    }

    private static void shadowRowsAtTheEdges() {
        CHECKS.by("Returns how many rows the shadow has.");
        CHECKS.due("of an empty table", Made.copied(new TableChanger(), NARROW, 0).shadowRows(), 0);
        CHECKS.due("none fits", Made.copied(Made.full(1, 1), NARROW, 0).shadowRows(), 0);
        TableChanger x = Made.full(0, 0);
        x.start(NARROW, 0);
        x.setPace(1, 0);
        for (int key = 0; key < 40; key++) {
            CHECKS.due("shadowRows", x.shadowRows(), key);
            x.tick(0);
        }
        CHECKS.due("all fit", x.shadowRows(), 40);
    }

    private static void behindAtTheEdges() {
        CHECKS.by("Returns how many; 0 in the phase IDLE.");
        CHECKS.due("IDLE, full", Made.full(999, 999).behind(), 0);
        TableChanger empty = new TableChanger();
        empty.start(SPLIT, 0);
        CHECKS.due("an empty table", empty.behind(), 0);
        TableChanger x = Made.full(0, 0);
        x.start(SCALE, 0);
        x.setPace(1, 0);
        for (int key = 0; key < 40; key++) {
            CHECKS.due("behind", x.behind(), 40 - key);
            x.tick(0);
        }
        CHECKS.due("all are copied", x.behind(), 0);
        for (int key = 39; key >= 0; key--) {
            x.delete(key);
        }
        CHECKS.due("all are deleted, and no note is played", x.behind(), 40);
        x.giveUp();
        CHECKS.due("IDLE", x.behind(), 0);
    }

    private static void behindInOneColumn() {
        CHECKS.by("those for which the shadow does not have what the old table has now");
        TableChanger x = Made.copied(Made.table(0, 100, 1, 1, 100, 1, 39, 100, 1), SPLIT, 0);
        x.update(0, 200, 1);
        CHECKS.due("the first column of the first key", x.behind(), 1);
        x.update(1, 101, 1);
        CHECKS.due("the second column alone", x.behind(), 2);
        x.update(39, 100, 2);
        CHECKS.due("the third column of the last key", x.behind(), 3);
        x.insert(20, 0, 0);
        CHECKS.due("a row of zeros that the shadow does not have", x.behind(), 4);
        x.delete(20);
        CHECKS.due("it is gone, though it is noted", x.behind(), 3);
        x.tick(0);
        CHECKS.due("all are brought", x.behind(), 0);
    }

    private static void behindWithoutADifference() {
        CHECKS.by("what the old table has now, by the alteration");
        TableChanger x = Made.copied(Made.table(0, 1, 10, 1, 1, 20, 39, 1, 30), SCALE, 0);
        x.update(0, 1, 99);
        CHECKS.due("another b, altered to the same row", x.behind(), 0);
        x.update(0, 1, 100);
        CHECKS.due("another number of digits", x.behind(), 1);
        TableChanger y = Made.copied(Made.table(0, 1, 11, 39, 1, 10), NARROW, 10);
        CHECKS.due("a row that does not fit, and none in the shadow", y.behind(), 0);
        y.update(39, 1, 11);
        CHECKS.due("a row that does not fit, and one in the shadow", y.behind(), 1);
        y.delete(39);
        CHECKS.due("no row, and one in the shadow", y.behind(), 1);
        y.update(0, 1, 10);
        CHECKS.due("a row that fits, and none in the shadow", y.behind(), 2);
        y.delete(0);
        CHECKS.due("no row, and none in the shadow", y.behind(), 1);
    }

    private static void sumAtTheEdges() {
        CHECKS.by("Returns the sum of a column over all rows of the shadow.");
        TableChanger empty = Made.copied(new TableChanger(), SCALE, 999);
        CHECKS.dueSums(empty, 0, 0, 0);
        TableChanger ends = Made.copied(Made.table(0, 1, 2, 39, 10, 20), NARROW, 20);
        CHECKS.dueSums(ends, 11, 22, 0);
        TableChanger without = Made.copied(Made.table(0, 1, 2, 39, 10, 20), NARROW, 19);
        CHECKS.dueSums(without, 1, 2, 0);
        TableChanger full = Made.copied(Made.full(999, 999), SCALE, 999);
        CHECKS.dueSums(full, 40 * 999, 40 * 999 * 999, 40 * 3);
        full.giveUp();
        CHECKS.dueSums(full, 0, 0, 0);
    }

    private static void sumAtOnceAtTheEdges() {
        CHECKS.by("the sum that the column would have if all rows of the old table were brought "
                + "now; 0 in the phase IDLE");
        TableChanger empty = new TableChanger();
        empty.start(SCALE, 999);
        CHECKS.dueSumsAtOnce(empty, 0, 0, 0);
        TableChanger ends = Made.table(0, 1, 2, 39, 10, 20, 20, 100, 21);
        CHECKS.dueSumsAtOnce(ends, 0, 0, 0);
        ends.start(NARROW, 20);
        CHECKS.dueSumsAtOnce(ends, 11, 22, 0);
        CHECKS.dueSums(ends, 0, 0, 0);
        ends.giveUp();
        CHECKS.dueSumsAtOnce(ends, 0, 0, 0);
        TableChanger full = Made.full(999, 999);
        full.start(SCALE, 999);
        CHECKS.dueSumsAtOnce(full, 40 * 999, 40 * 999 * 999, 40 * 3);
        TableChanger cut = Made.cut(Made.table(0, 1, 2, 39, 10, 20), NARROW, 19);
        CHECKS.dueSumsAtOnce(cut, 1, 2, 0);
        cut.finish();
        CHECKS.dueSumsAtOnce(cut, 0, 0, 0);
    }
}
