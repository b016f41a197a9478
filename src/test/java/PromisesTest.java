/** The promises 1 to 23 one by one: ordinary inputs, the edges and wrong inputs. */
public final class PromisesTest {
    private static final Checks CHECKS = new Checks("PromisesTest");
    private static final Class<IndexOutOfBoundsException> INDEX = Made.INDEX;
    private static final Class<IllegalArgumentException> ARGUMENT = Made.ARGUMENT;
    private static final Class<IllegalStateException> STATE = Made.STATE;
    private static final Class<java.util.NoSuchElementException> ELEMENT = Made.ELEMENT;
    private static final int[] NO_KEYS = {-1, 40, Integer.MIN_VALUE, Integer.MAX_VALUE};
    private static final int[] NO_COLUMNS = {-1, 3, Integer.MIN_VALUE, Integer.MAX_VALUE};
    private static final int[] NO_VALUES = {-1, 1000, Integer.MIN_VALUE, Integer.MAX_VALUE};
    private static final int[] NO_COUNTS = {-1, 1001, Integer.MIN_VALUE, Integer.MAX_VALUE};

    private PromisesTest() {
    }

    public static void main(String[] args) {
        promise1NewObject();
        promise2Insert();
        promise2InsertWhileCopyingAndCut();
        promise3Update();
        promise3UpdateWhileCopyingAndCut();
        promise4Delete();
        promise4DeleteWhileCopyingAndCut();
        promise5Rekey();
        promise5RekeyWhileCopyingAndCut();
        promise5OrderOfNotes();
        promise6Start();
        promise6Alterations();
        promise7SetPace();
        promise8TickCopies();
        promise8TickPlaysNotes();
        promise9CutOver();
        promise10Undo();
        promise11Finish();
        promise12GiveUp();
        promise13And14WhatClientsSee();
        promise15And16PhaseAndMark();
        promise17Notes();
        promise18And19Shadow();
        promise20IsRefused();
        promise21Behind();
        promise22And23Sums();
        allKeysFromFirstToLast();
        nothingEscapesBehindTheLastCall();
        CHECKS.end();
    }

    // ---- what most tests begin with

    private static void due(String what, long got, long want) {
        CHECKS.due(what, got, want);
    }

    private static void due(String what, boolean got) {
        CHECKS.due(what, got);
    }

    private static void refused(String what, Class<? extends RuntimeException> exception,
            Checks.Deed deed) {
        CHECKS.refused(what, exception, deed);
    }

    /** A change behind its last key, with rows 10: (123, 45), 11: (5, 700), chunk 40. */
    private static TableChanger copied(int alteration, int parameter) {
        return Made.copied(Made.table(10, 123, 45, 11, 5, 700), alteration, parameter);
    }

    /** The same, cut over. */
    private static TableChanger cut(int alteration, int parameter) {
        return Made.cut(Made.table(10, 123, 45, 11, 5, 700), alteration, parameter);
    }

    private static void dueShadow(TableChanger x, int key, int first, int second, int third) {
        CHECKS.dueShadow(x, key, first, second, third);
    }

    private static void dueNoShadow(TableChanger x, int key) {
        CHECKS.dueNoShadow(x, key);
    }

    // ---- a new object

    private static void promise1NewObject() {
        TableChanger x = new TableChanger();
        due("rows of a new object", x.rows(), 0);
        due("phase of a new object", x.phase(), TableChanger.IDLE);
        due("mark of a new object", x.mark(), TableChanger.NONE);
        due("notes of a new object", x.notes(), 0);
        due("shadowRows of a new object", x.shadowRows(), 0);
        due("behind of a new object", x.behind(), 0);
        for (int key = 0; key < 40; key++) {
            due("row of a new object", x.row(key), TableChanger.NONE);
            due("refused in a new object", !x.isRefused(key));
            dueNoShadow(x, key);
        }
        for (int column = 0; column < 3; column++) {
            due("sum of a new object", x.sum(column), 0);
            due("sumAtOnce of a new object", x.sumAtOnce(column), 0);
        }
        x.start(TableChanger.SPLIT, 0);
        due("tick over the first greatest lag", x.tick(11), 0);
        due("tick at the first greatest lag, with the first chunk", x.tick(10), 8);
        TableChanger other = new TableChanger();
        other.insert(1, 1, 1);
        due("two objects have tables of their own", x.rows(), 0);
    }

    // ---- clients

    private static void promise2Insert() {
        TableChanger x = new TableChanger();
        x.insert(0, 0, 0);
        x.insert(39, 999, 999);
        x.insert(7, 12, 3);
        due("row with zeros", x.row(0), 0);
        due("row with the greatest", x.row(39), 999999);
        due("row between", x.row(7), 12003);
        due("rows", x.rows(), 3);
        due("no notes when IDLE", x.notes(), 0);
        for (int key : NO_KEYS) {
            refused("insert at no key", INDEX, () -> x.insert(key, 1, 1));
            refused("insert at no key, a wrong", INDEX, () -> x.insert(key, -1, 1000));
        }
        for (int value : NO_VALUES) {
            refused("insert, a wrong", ARGUMENT, () -> x.insert(1, value, 1));
            refused("insert, b wrong", ARGUMENT, () -> x.insert(1, 1, value));
            refused("insert again, a wrong", ARGUMENT, () -> x.insert(0, value, 1));
        }
        refused("insert again", STATE, () -> x.insert(0, 1, 1));
        refused("insert the same again", STATE, () -> x.insert(39, 999, 999));
    }

    private static void promise2InsertWhileCopyingAndCut() {
        TableChanger x = copied(TableChanger.NARROW, 100);
        refused("insert where a refused row is seen", STATE, () -> x.insert(11, 1, 1));
        x.insert(12, 1, 101);
        due("a row that does not fit is written while COPYING", x.row(12), 1101);
        due("it is noted", x.notes(), 1);
        due("it is not brought yet", !x.isRefused(12));
        x.cutOver(1);
        refused("insert what does not fit, CUT", ARGUMENT, () -> x.insert(13, 1, 101));
        refused("insert what does not fit where a row is", ARGUMENT, () -> x.insert(10, 1, 101));
        refused("insert where clients see a row, CUT", STATE, () -> x.insert(10, 1, 100));
        x.insert(13, 1, 100);
        due("what just fits is written", x.row(13), 1100);
        dueShadow(x, 13, 1, 100, 0);
        due("without a note", x.notes(), 0);
        x.insert(11, 4, 5);
        due("an unseen row gives way", x.row(11), 4005);
        dueShadow(x, 11, 4, 5, 0);
        due("and is no longer refused", !x.isRefused(11));
        due("rows", x.rows(), 3);
        due("behind", x.behind(), 0);
    }

    private static void promise3Update() {
        TableChanger x = new TableChanger();
        x.insert(0, 1, 2);
        x.insert(39, 3, 4);
        x.update(0, 999, 0);
        x.update(39, 0, 999);
        due("row(0)", x.row(0), 999000);
        due("row(39)", x.row(39), 999);
        due("rows", x.rows(), 2);
        due("no notes when IDLE", x.notes(), 0);
        for (int key : NO_KEYS) {
            refused("update of no key", INDEX, () -> x.update(key, 1, 1));
            refused("update of no key, b wrong", INDEX, () -> x.update(key, 1, 1000));
        }
        for (int value : NO_VALUES) {
            refused("update, a wrong", ARGUMENT, () -> x.update(0, value, 1));
            refused("update, b wrong", ARGUMENT, () -> x.update(0, 1, value));
            refused("update of no row, a wrong", ARGUMENT, () -> x.update(5, value, 1));
        }
        refused("update of no row", ELEMENT, () -> x.update(5, 1, 1));
    }

    private static void promise3UpdateWhileCopyingAndCut() {
        TableChanger x = copied(TableChanger.NARROW, 100);
        x.update(10, 9, 8);
        due("notes", x.notes(), 1);
        due("row at once", x.row(10), 9008);
        dueShadow(x, 10, 123, 45, 0);
        x.update(10, 9, 101);
        due("a row that does not fit is written while COPYING", x.row(10), 9101);
        x.update(10, 9, 8);
        due("notes", x.notes(), 3);
        x.cutOver(3);
        refused("update to what does not fit", ARGUMENT, () -> x.update(10, 1, 101));
        refused("update of an unseen row", ELEMENT, () -> x.update(11, 1, 100));
        refused("update of an unseen row to what does not fit", ARGUMENT,
                () -> x.update(11, 1, 101));
        x.update(10, 7, 100);
        due("row", x.row(10), 7100);
        dueShadow(x, 10, 7, 100, 0);
        due("no notes when CUT", x.notes(), 0);
    }

    private static void promise4Delete() {
        TableChanger x = new TableChanger();
        x.insert(0, 0, 0);
        x.insert(39, 999, 998);
        x.insert(3, 7, 5);
        for (int key : NO_KEYS) {
            refused("delete of no key", INDEX, () -> x.delete(key));
        }
        refused("delete of no row", ELEMENT, () -> x.delete(1));
        due("delete(0)", x.delete(0), 0);
        due("delete(39)", x.delete(39), 999998);
        due("rows", x.rows(), 1);
        due("row(39)", x.row(39), TableChanger.NONE);
        due("no notes when IDLE", x.notes(), 0);
        refused("delete again", ELEMENT, () -> x.delete(0));
        x.insert(0, 4, 4);
        due("insert behind delete", x.row(0), 4004);
    }

    private static void promise4DeleteWhileCopyingAndCut() {
        TableChanger x = copied(TableChanger.NARROW, 100);
        due("delete of a refused row while COPYING", x.delete(11), 5700);
        due("it is noted", x.notes(), 1);
        due("and refused until it is brought", x.isRefused(11));
        x.insert(11, 5, 700);
        x.cutOver(2);
        refused("delete of an unseen row", ELEMENT, () -> x.delete(11));
        due("delete when CUT", x.delete(10), 123045);
        dueNoShadow(x, 10);
        due("no notes when CUT", x.notes(), 0);
        due("rows", x.rows(), 0);
        x.undo();
        due("the old row is gone, too", x.row(10), TableChanger.NONE);
        due("the refused one is not", x.row(11), 5700);
    }

    private static void promise5Rekey() {
        TableChanger x = new TableChanger();
        x.insert(0, 1, 2);
        x.insert(5, 3, 4);
        for (int key : NO_KEYS) {
            refused("rekey of no key", INDEX, () -> x.rekey(key, 1));
            refused("rekey to no key", INDEX, () -> x.rekey(0, key));
            refused("rekey of no key to itself", INDEX, () -> x.rekey(key, key));
            refused("rekey of no row to no key", INDEX, () -> x.rekey(9, key));
        }
        refused("rekey to itself", ARGUMENT, () -> x.rekey(0, 0));
        refused("rekey of no row to itself", ARGUMENT, () -> x.rekey(9, 9));
        refused("rekey of no row", ELEMENT, () -> x.rekey(9, 8));
        refused("rekey of no row to a row", ELEMENT, () -> x.rekey(9, 0));
        refused("rekey to a row", STATE, () -> x.rekey(0, 5));
        x.rekey(0, 39);
        due("row at the other key", x.row(39), 1002);
        due("none at the first", x.row(0), TableChanger.NONE);
        x.rekey(39, 0);
        due("and back", x.row(0), 1002);
        due("rows", x.rows(), 2);
        due("no notes when IDLE", x.notes(), 0);
    }

    private static void promise5RekeyWhileCopyingAndCut() {
        TableChanger x = copied(TableChanger.NARROW, 100);
        x.rekey(11, 12);
        due("two notes", x.notes(), 2);
        due("row that does not fit at the other key", x.row(12), 5700);
        due("refused as before", x.isRefused(11) && !x.isRefused(12));
        x.cutOver(2);
        due("refused behind it", !x.isRefused(11) && x.isRefused(12));
        refused("rekey of an unseen row", ELEMENT, () -> x.rekey(12, 1));
        x.rekey(10, 12);
        due("an unseen row gives way", x.row(12), 123045);
        dueShadow(x, 12, 123, 45, 0);
        dueNoShadow(x, 10);
        due("and is no longer refused", !x.isRefused(12));
        x.rekey(12, 2);
        dueShadow(x, 2, 123, 45, 0);
        due("no notes when CUT", x.notes(), 0);
        due("rows", x.rows(), 1);
        x.insert(3, 1, 1);
        refused("rekey to a seen row", STATE, () -> x.rekey(2, 3));
        due("behind", x.behind(), 0);
    }

    private static void promise5OrderOfNotes() {
        TableChanger down = copied(TableChanger.SPLIT, 0);
        down.setPace(1, 10);
        down.rekey(10, 4);
        due("tick", down.tick(0), 1);
        dueShadow(down, 4, 1, 23, 45);
        dueShadow(down, 10, 1, 23, 45);
        due("tick", down.tick(0), 1);
        dueNoShadow(down, 10);
        TableChanger up = copied(TableChanger.SPLIT, 0);
        up.setPace(1, 10);
        up.rekey(10, 14);
        due("tick", up.tick(0), 1);
        dueNoShadow(up, 10);
        dueNoShadow(up, 14);
        due("tick", up.tick(0), 1);
        dueShadow(up, 14, 1, 23, 45);
    }

    // ---- the change

    private static void promise6Start() {
        TableChanger x = new TableChanger();
        x.insert(0, 1, 1);
        int[] noAlterations = {-1, 3, Integer.MIN_VALUE, Integer.MAX_VALUE};
        for (int alteration : noAlterations) {
            refused("start of no alteration", ARGUMENT, () -> x.start(alteration, 0));
        }
        for (int parameter : NO_VALUES) {
            refused("start, parameter wrong", ARGUMENT, () -> x.start(0, parameter));
        }
        x.start(TableChanger.SPLIT, 999);
        due("phase", x.phase(), TableChanger.COPYING);
        due("mark", x.mark(), 0);
        due("notes", x.notes(), 0);
        due("the shadow is empty", x.shadowRows(), 0);
        refused("start again", STATE, () -> x.start(1, 1));
        refused("start again, alteration wrong", ARGUMENT, () -> x.start(3, 1));
        x.setPace(40, 0);
        x.tick(0);
        x.cutOver(0);
        refused("start when CUT", STATE, () -> x.start(1, 1));
        x.finish();
        x.start(TableChanger.NARROW, 0);
        due("a change behind a change: mark", x.mark(), 0);
        due("a change behind a change: shadow", x.shadowRows(), 0);
        due("the pace stays", x.tick(0), 40);
        due("its own alteration", x.isRefused(0));
    }

    private static void promise6Alterations() {
        TableChanger split = new TableChanger();
        split.insert(0, 999, 999);
        split.insert(1, 100, 0);
        split.insert(2, 99, 1);
        split.start(TableChanger.SPLIT, 0);
        split.tick(0);
        dueShadow(split, 0, 9, 99, 999);
        dueShadow(split, 1, 1, 0, 0);
        dueShadow(split, 2, 0, 99, 1);
        TableChanger narrow = new TableChanger();
        narrow.insert(0, 999, 0);
        narrow.insert(1, 0, 1);
        narrow.start(TableChanger.NARROW, 0);
        narrow.tick(0);
        dueShadow(narrow, 0, 999, 0, 0);
        dueNoShadow(narrow, 1);
        TableChanger scale = new TableChanger();
        int[] edges = {0, 1, 9, 10, 99, 100, 999};
        int[] digits = {1, 1, 1, 2, 2, 3, 3};
        for (int key = 0; key < edges.length; key++) {
            scale.insert(key, 7, edges[key]);
        }
        scale.start(TableChanger.SCALE, 999);
        scale.tick(0);
        for (int key = 0; key < edges.length; key++) {
            dueShadow(scale, key, 7, 999 * edges[key], digits[key]);
        }
        scale.giveUp();
        scale.start(TableChanger.SCALE, 0);
        scale.tick(0);
        dueShadow(scale, 6, 7, 0, 3);
    }

    private static void promise7SetPace() {
        TableChanger x = new TableChanger();
        int[] noChunks = {0, -1, 41, Integer.MIN_VALUE, Integer.MAX_VALUE};
        for (int chunk : noChunks) {
            refused("setPace, chunk wrong", ARGUMENT, () -> x.setPace(chunk, 5));
        }
        int[] noLags = {-1, 101, Integer.MIN_VALUE, Integer.MAX_VALUE};
        for (int lag : noLags) {
            refused("setPace, lag wrong", ARGUMENT, () -> x.setPace(5, lag));
        }
        x.start(TableChanger.SPLIT, 0);
        due("the chunk is as it was", x.tick(0), 8);
        x.setPace(1, 0);
        due("lag above 0", x.tick(1), 0);
        due("chunk 1", x.tick(0), 1);
        refused("setPace, lag wrong", ARGUMENT, () -> x.setPace(40, 101));
        due("still chunk 1", x.tick(0), 1);
        due("still lag 0", x.tick(1), 0);
        x.setPace(40, 100);
        due("lag above 100", x.tick(101), 0);
        due("chunk 40, lag 100", x.tick(100), 30);
        x.cutOver(0);
        x.setPace(3, 7);
        x.finish();
        x.start(TableChanger.SPLIT, 0);
        due("lag of the pace set when CUT", x.tick(8), 0);
        due("chunk of the pace set when CUT", x.tick(7), 3);
    }

    private static void promise8TickCopies() {
        TableChanger x = new TableChanger();
        refused("tick when IDLE", STATE, () -> x.tick(0));
        for (int lag : NO_COUNTS) {
            refused("tick when IDLE, lag wrong", ARGUMENT, () -> x.tick(lag));
        }
        for (int key = 0; key < 40; key++) {
            x.insert(key, 100 + key, key);
        }
        x.setPace(16, 10);
        x.start(TableChanger.SPLIT, 0);
        for (int lag : NO_COUNTS) {
            refused("tick, lag wrong", ARGUMENT, () -> x.tick(lag));
        }
        due("tick at the greatest lag told", x.tick(1000), 0);
        due("mark behind it", x.mark(), 0);
        due("tick", x.tick(0), 16);
        due("mark", x.mark(), 16);
        due("shadowRows", x.shadowRows(), 16);
        dueShadow(x, 15, 1, 15, 15);
        dueNoShadow(x, 16);
        due("tick", x.tick(10), 16);
        due("tick not beyond 39", x.tick(0), 8);
        due("mark", x.mark(), 40);
        dueShadow(x, 39, 1, 39, 39);
        due("tick without notes", x.tick(0), 0);
        x.cutOver(0);
        refused("tick when CUT", STATE, () -> x.tick(0));
        refused("tick when CUT, over the lag", STATE, () -> x.tick(1000));
    }

    private static void promise8TickPlaysNotes() {
        TableChanger x = new TableChanger();
        x.setPace(39, 10);
        x.start(TableChanger.SPLIT, 0);
        x.insert(5, 1, 1);
        x.insert(39, 2, 2);
        due("tick", x.tick(0), 39);
        due("notes stay while the mark is not 40", x.notes(), 2);
        due("the last chunk plays no notes", x.tick(0), 1);
        due("notes", x.notes(), 2);
        x.setPace(3, 10);
        x.update(5, 3, 3);
        x.update(5, 4, 4);
        x.delete(39);
        x.insert(6, 6, 6);
        due("over the lag no note is played", x.tick(11), 0);
        due("notes", x.notes(), 6);
        due("as many as the chunk", x.tick(0), 3);
        due("notes", x.notes(), 3);
        dueShadow(x, 5, 0, 4, 4);
        dueNoShadow(x, 39);
        dueNoShadow(x, 6);
        x.setPace(2, 10);
        due("a note of a key that is not behind counts", x.tick(0), 2);
        due("notes", x.notes(), 1);
        dueNoShadow(x, 6);
        due("fewer notes than the chunk", x.tick(0), 1);
        dueShadow(x, 6, 0, 6, 6);
        due("no notes", x.tick(0), 0);
        x.setPace(40, 10);
        x.update(6, 1, 1);
        x.update(6, 2, 2);
        due("a key that is noted twice is brought twice", x.tick(0), 2);
    }

    private static void promise9CutOver() {
        TableChanger x = new TableChanger();
        refused("cutOver when IDLE", STATE, () -> x.cutOver(0));
        for (int most : NO_COUNTS) {
            refused("cutOver when IDLE, most wrong", ARGUMENT, () -> x.cutOver(most));
        }
        x.setPace(39, 10);
        x.start(TableChanger.NARROW, 10);
        refused("cutOver at mark 0", STATE, () -> x.cutOver(1000));
        x.tick(0);
        refused("cutOver at mark 39", STATE, () -> x.cutOver(1000));
        x.tick(0);
        x.insert(1, 1, 10);
        x.insert(2, 2, 11);
        x.rekey(1, 3);
        for (int most : NO_COUNTS) {
            refused("cutOver, most wrong", ARGUMENT, () -> x.cutOver(most));
        }
        refused("cutOver with a note more", STATE, () -> x.cutOver(3));
        due("cutOver", x.cutOver(4), 4);
        due("phase", x.phase(), TableChanger.CUT);
        due("notes", x.notes(), 0);
        due("mark", x.mark(), 40);
        dueShadow(x, 3, 1, 10, 0);
        due("refused", x.isRefused(2) && !x.isRefused(1));
        due("behind", x.behind(), 0);
        refused("cutOver again", STATE, () -> x.cutOver(0));
        x.undo();
        due("cutOver of nothing", x.cutOver(0), 0);
        x.undo();
        due("cutOver of nothing, most 1000", x.cutOver(1000), 0);
    }

    private static void promise10Undo() {
        TableChanger x = new TableChanger();
        refused("undo when IDLE", STATE, x::undo);
        x.start(TableChanger.SPLIT, 0);
        refused("undo when COPYING", STATE, x::undo);
        TableChanger y = cut(TableChanger.NARROW, 100);
        y.update(10, 1, 2);
        y.insert(12, 3, 4);
        y.undo();
        due("phase", y.phase(), TableChanger.COPYING);
        due("mark", y.mark(), 40);
        due("notes", y.notes(), 0);
        due("clients see what was written", y.row(10), 1002);
        due("clients see the refused row again", y.row(11), 5700);
        due("rows", y.rows(), 3);
        due("the shadow stays", y.shadowRows(), 2);
        due("refused stays", y.isRefused(11));
        y.update(12, 3, 500);
        due("writes are noted again, fit or not", y.notes(), 1);
        due("tick plays notes", y.tick(0), 1);
        due("refused", y.isRefused(12));
        due("cutOver again", y.cutOver(0), 0);
        due("rows", y.rows(), 1);
        y.undo();
        due("giveUp behind undo", y.giveUp(), 1);
        due("rows", y.rows(), 3);
    }

    private static void promise11Finish() {
        TableChanger x = new TableChanger();
        refused("finish when IDLE", STATE, x::finish);
        x.start(TableChanger.SPLIT, 0);
        refused("finish when COPYING", STATE, x::finish);
        TableChanger y = cut(TableChanger.NARROW, 100);
        y.insert(0, 1, 1);
        y.insert(39, 2, 2);
        due("finish", y.finish(), 1);
        due("phase", y.phase(), TableChanger.IDLE);
        due("mark", y.mark(), TableChanger.NONE);
        due("rows", y.rows(), 3);
        due("the row that fits stays as it was", y.row(10), 123045);
        due("the refused one is gone", y.row(11), TableChanger.NONE);
        due("and not refused any more", !y.isRefused(11));
        due("no shadow", y.shadowRows(), 0);
        dueNoShadow(y, 10);
        due("sum", y.sum(0), 0);
        refused("finish again", STATE, y::finish);
        y.insert(11, 1, 999);
        due("clients write as before", y.row(11), 1999);
        due("finish without a refused row", finishOfSplit(), 0);
    }

    private static int finishOfSplit() {
        return cut(TableChanger.SPLIT, 0).finish();
    }

    private static void promise12GiveUp() {
        TableChanger x = new TableChanger();
        refused("giveUp when IDLE", STATE, x::giveUp);
        TableChanger y = copied(TableChanger.NARROW, 100);
        y.insert(12, 1, 1);
        y.delete(10);
        due("giveUp", y.giveUp(), 1);
        due("phase", y.phase(), TableChanger.IDLE);
        due("mark", y.mark(), TableChanger.NONE);
        due("notes", y.notes(), 0);
        due("shadowRows", y.shadowRows(), 0);
        dueNoShadow(y, 10);
        due("not refused", !y.isRefused(11));
        due("the old table as it is", y.row(11), 5700);
        due("rows", y.rows(), 2);
        refused("giveUp again", STATE, y::giveUp);
        y.start(TableChanger.SPLIT, 0);
        due("notes do not come again", y.notes(), 0);
        due("nothing is refused in a new change", !y.isRefused(11));
        due("giveUp at once", y.giveUp(), 0);
        TableChanger z = cut(TableChanger.SPLIT, 0);
        refused("giveUp when CUT", STATE, z::giveUp);
    }

    // ---- what clients see

    private static void promise13And14WhatClientsSee() {
        TableChanger x = copied(TableChanger.NARROW, 100);
        for (int key : NO_KEYS) {
            refused("row of no key", INDEX, () -> x.row(key));
        }
        due("COPYING: the old table, a row that fits", x.row(10), 123045);
        due("COPYING: the old table, a row that does not", x.row(11), 5700);
        due("COPYING: rows", x.rows(), 2);
        x.delete(10);
        due("COPYING: a row only the shadow has", x.row(10), TableChanger.NONE);
        due("COPYING: rows", x.rows(), 1);
        x.insert(10, 123, 45);
        x.cutOver(2);
        due("CUT: a row that fits, by a and b", x.row(10), 123045);
        due("CUT: a row that does not", x.row(11), TableChanger.NONE);
        due("CUT: rows", x.rows(), 1);
        TableChanger full = new TableChanger();
        for (int key = 0; key < 40; key++) {
            full.insert(key, key, 0);
        }
        due("rows of a full table", full.rows(), 40);
    }

    // ---- the change as it is

    private static void promise15And16PhaseAndMark() {
        TableChanger x = new TableChanger();
        due("phase", x.phase(), TableChanger.IDLE);
        due("mark", x.mark(), TableChanger.NONE);
        x.start(TableChanger.SCALE, 1);
        due("phase", x.phase(), TableChanger.COPYING);
        due("mark", x.mark(), 0);
        for (int mark = 8; mark <= 40; mark += 8) {
            x.tick(0);
            due("mark", x.mark(), mark);
        }
        x.tick(0);
        due("the mark stays at 40", x.mark(), 40);
        x.cutOver(0);
        due("phase", x.phase(), TableChanger.CUT);
        due("mark when CUT", x.mark(), 40);
        x.finish();
        due("phase", x.phase(), TableChanger.IDLE);
        due("mark", x.mark(), TableChanger.NONE);
    }

    private static void promise17Notes() {
        TableChanger x = new TableChanger();
        x.insert(1, 1, 1);
        due("IDLE", x.notes(), 0);
        x.start(TableChanger.SPLIT, 0);
        x.insert(20, 2, 2);
        due("insert notes a key", x.notes(), 1);
        x.update(20, 2, 2);
        due("update notes a key, the same row again", x.notes(), 2);
        x.delete(20);
        due("delete notes a key", x.notes(), 3);
        x.rekey(1, 2);
        due("rekey notes both keys", x.notes(), 5);
        refused("a call that throws notes nothing", STATE, () -> x.insert(2, 1, 1));
        due("notes", x.notes(), 5);
    }

    private static void promise18And19Shadow() {
        TableChanger x = copied(TableChanger.SPLIT, 0);
        for (int key : NO_KEYS) {
            refused("shadow of no key", INDEX, () -> x.shadow(key, 0));
        }
        for (int column : NO_COLUMNS) {
            refused("shadow of no column", INDEX, () -> x.shadow(10, column));
        }
        dueShadow(x, 10, 1, 23, 45);
        dueShadow(x, 11, 0, 5, 700);
        dueNoShadow(x, 0);
        dueNoShadow(x, 39);
        due("shadowRows", x.shadowRows(), 2);
        x.delete(10);
        due("the shadow follows later", x.shadowRows(), 2);
        x.tick(0);
        due("shadowRows", x.shadowRows(), 1);
        dueNoShadow(x, 10);
        TableChanger zeros = new TableChanger();
        zeros.insert(0, 0, 0);
        zeros.start(TableChanger.SPLIT, 0);
        zeros.tick(0);
        dueShadow(zeros, 0, 0, 0, 0);
        due("a row of zeros is a row", zeros.shadowRows(), 1);
    }

    private static void promise20IsRefused() {
        TableChanger x = copied(TableChanger.NARROW, 100);
        for (int key : NO_KEYS) {
            refused("isRefused of no key", INDEX, () -> x.isRefused(key));
        }
        due("a row that fits", !x.isRefused(10));
        due("a row that does not", x.isRefused(11));
        due("no row", !x.isRefused(12));
        x.update(11, 1, 100);
        x.update(10, 1, 101);
        due("as it was when brought", x.isRefused(11) && !x.isRefused(10));
        x.tick(0);
        due("as it is brought", !x.isRefused(11) && x.isRefused(10));
        dueNoShadow(x, 10);
        x.delete(10);
        x.cutOver(1);
        due("the row is gone when it is brought", !x.isRefused(10));
        TableChanger wide = copied(TableChanger.NARROW, 700);
        due("b at the parameter fits", !wide.isRefused(11));
        TableChanger strict = copied(TableChanger.NARROW, 699);
        due("b above the parameter does not", strict.isRefused(11));
        TableChanger split = copied(TableChanger.SPLIT, 0);
        due("all rows fit another alteration", !split.isRefused(10) && !split.isRefused(11));
        TableChanger scale = copied(TableChanger.SCALE, 0);
        due("all rows fit another alteration", !scale.isRefused(10) && !scale.isRefused(11));
    }

    private static void promise21Behind() {
        TableChanger x = new TableChanger();
        x.insert(10, 123, 45);
        x.insert(11, 5, 700);
        due("IDLE", x.behind(), 0);
        x.start(TableChanger.NARROW, 100);
        due("only a row that fits is behind", x.behind(), 1);
        x.setPace(40, 10);
        x.tick(0);
        due("all are brought", x.behind(), 0);
        x.update(10, 123, 44);
        due("a row of the shadow is another", x.behind(), 1);
        x.update(10, 123, 101);
        due("a row of the shadow is too many", x.behind(), 1);
        x.update(10, 123, 45);
        due("notes alone are not behind", x.behind(), 0);
        x.rekey(10, 12);
        due("both keys", x.behind(), 2);
        x.update(11, 6, 600);
        due("neither has a row", x.behind(), 2);
        x.cutOver(6);
        due("CUT", x.behind(), 0);
        x.undo();
        x.delete(12);
        due("behind", x.behind(), 1);
        x.giveUp();
        due("IDLE", x.behind(), 0);
        TableChanger scale = copied(TableChanger.SCALE, 0);
        scale.update(10, 123, 46);
        due("two rows that are altered to the same one", scale.behind(), 0);
        scale.update(10, 123, 9);
        due("another number of digits", scale.behind(), 1);
        TableChanger split = copied(TableChanger.SPLIT, 0);
        split.update(10, 223, 45);
        due("another first column", split.behind(), 1);
        split.update(10, 124, 45);
        due("another second column", split.behind(), 1);
    }

    private static void promise22And23Sums() {
        TableChanger x = new TableChanger();
        x.insert(0, 123, 45);
        x.insert(39, 999, 700);
        for (int column : NO_COLUMNS) {
            refused("sum of no column", INDEX, () -> x.sum(column));
            refused("sumAtOnce of no column", INDEX, () -> x.sumAtOnce(column));
        }
        CHECKS.dueSums(x, 0, 0, 0);
        CHECKS.dueSumsAtOnce(x, 0, 0, 0);
        x.start(TableChanger.SPLIT, 0);
        for (int column : NO_COLUMNS) {
            refused("sum of no column, COPYING", INDEX, () -> x.sum(column));
            refused("sumAtOnce of no column, COPYING", INDEX, () -> x.sumAtOnce(column));
        }
        CHECKS.dueSums(x, 0, 0, 0);
        CHECKS.dueSumsAtOnce(x, 10, 122, 745);
        x.tick(0);
        CHECKS.dueSums(x, 1, 23, 45);
        x.delete(0);
        CHECKS.dueSums(x, 1, 23, 45);
        CHECKS.dueSumsAtOnce(x, 9, 99, 700);
        x.giveUp();
        CHECKS.dueSums(x, 0, 0, 0);
        x.insert(1, 3, 500);
        x.setPace(40, 0);
        x.start(TableChanger.NARROW, 500);
        CHECKS.dueSumsAtOnce(x, 3, 500, 0);
        x.tick(0);
        CHECKS.dueSums(x, 3, 500, 0);
        x.cutOver(0);
        x.update(1, 4, 0);
        CHECKS.dueSums(x, 4, 0, 0);
        CHECKS.dueSumsAtOnce(x, 4, 0, 0);
        dueGreatestSums();
    }

    private static void dueGreatestSums() {
        TableChanger x = new TableChanger();
        for (int key = 0; key < 40; key++) {
            x.insert(key, 999, 999);
        }
        x.setPace(40, 0);
        x.start(TableChanger.SCALE, 999);
        CHECKS.dueSumsAtOnce(x, 39960, 39920040, 120);
        x.tick(0);
        CHECKS.dueSums(x, 39960, 39920040, 120);
    }

    private static void allKeysFromFirstToLast() {
        TableChanger x = new TableChanger();
        for (int key = 0; key < 40; key++) {
            x.insert(key, key, 10);
        }
        x.setPace(40, 0);
        x.start(TableChanger.NARROW, 10);
        due("all keys are behind", x.behind(), 40);
        x.tick(0);
        due("none is", x.behind(), 0);
        due("all have a row in the shadow", x.shadowRows(), 40);
        due("giveUp", x.giveUp(), 40);
        x.start(TableChanger.NARROW, 9);
        due("none is behind that does not fit", x.behind(), 0);
        x.tick(0);
        for (int key = 0; key < 40; key++) {
            due("refused", x.isRefused(key));
        }
        x.cutOver(0);
        due("clients see none", x.rows(), 0);
        due("finish", x.finish(), 40);
        for (int key = 0; key < 40; key++) {
            due("not refused", !x.isRefused(key));
            due("row", x.row(key), TableChanger.NONE);
        }
    }

    // Nothing is promised behind the 512th call, but the machine must not throw there either.
    private static void nothingEscapesBehindTheLastCall() {
        CHECKS.due("5000 calls throw", Checks.thrownBy(() -> {
            TableChanger x = new TableChanger();
            x.insert(0, 1, 1);
            x.start(TableChanger.NARROW, 5);
            for (int i = 0; i < 5000; i++) {
                x.rekey(i % 2, 1 - i % 2);
            }
            x.tick(0);
            Checks.state(x);
        }), "nothing");
    }
}
