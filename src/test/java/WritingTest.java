/** The sentences of the section 'Writing' at their edges, and the promises 2 to 5. */
public final class WritingTest {
    private static final Checks CHECKS = new Checks("WritingTest");
    private static final int NONE = TableChanger.NONE;
    private static final int SPLIT = TableChanger.SPLIT;
    private static final int NARROW = TableChanger.NARROW;
    private static final int SCALE = TableChanger.SCALE;

    private WritingTest() {
    }

    public static void main(String[] args) {
        fullTable();
        emptyTable();
        insertWhereARowIs();
        keysThatAreTheSame();
        rekeyToARow();
        idleWritesAreNotNoted();
        copyingWritesTheOldTable();
        copyingNotesEachWrite();
        copyingNotesRefusedRows();
        copyingNotesBelowAndAboveTheMark();
        rekeyDownNotesTheLesserFirst();
        rekeyUpNotesTheLesserFirst();
        rekeyBetweenTheEnds();
        notesOfACallThatThrows();
        cutInsertIsBroughtAtOnce();
        cutUpdateIsBroughtAtOnce();
        cutDeleteIsBroughtAtOnce();
        cutRekeyIsBroughtAtOnce();
        cutWritesTheOldTableToo();
        cutRefusesWhatDoesNotFit();
        cutAtTheLeastAndTheGreatestParameter();
        cutTakesAllThatFits();
        copyingTakesWhatDoesNotFit();
        seenWhenCut();
        unseenWhenCut();
        unseenKeyIsFree();
        CHECKS.end();
    }

    // ---- the promises

    private static void fullTable() {
        CHECKS.by("IllegalStateException if clients see a row with this key: a full table");
        TableChanger x = Made.full(1, 1);
        for (int key = 0; key < 40; key++) {
            int taken = key;
            CHECKS.refused("insert(" + key + ")", Made.STATE, () -> x.insert(taken, 2, 2));
            CHECKS.refused("rekey(" + key + ")", Made.STATE,
                    () -> x.rekey(taken, (taken + 1) % 40));
            x.update(key, 3, key);
        }
        CHECKS.due("rows", x.rows(), 40);
        for (int key = 0; key < 40; key++) {
            CHECKS.due("row", x.row(key), 3000 + key);
        }
    }

    private static void emptyTable() {
        CHECKS.by("NoSuchElementException if clients see no row with this key: an empty table");
        TableChanger x = new TableChanger();
        for (int key = 0; key < 40; key++) {
            int free = key;
            CHECKS.refused("update(" + key + ")", Made.ELEMENT, () -> x.update(free, 2, 2));
            CHECKS.refused("delete(" + key + ")", Made.ELEMENT, () -> x.delete(free));
            CHECKS.refused("rekey(" + key + ")", Made.ELEMENT,
                    () -> x.rekey(free, (free + 1) % 40));
        }
        CHECKS.due("rows", x.rows(), 0);
    }

    private static void insertWhereARowIs() {
        CHECKS.by("IllegalStateException if clients see a row with this key");
        TableChanger x = Made.table(0, 0, 0, 39, 999, 999);
        CHECKS.refused("insert where zeros are", Made.STATE, () -> x.insert(0, 1, 1));
        CHECKS.refused("insert of the same row", Made.STATE, () -> x.insert(39, 999, 999));
        CHECKS.due("row(0)", x.row(0), 0);
        CHECKS.due("row(39)", x.row(39), 999999);
        x.delete(0);
        x.insert(0, 1, 1);
        CHECKS.due("behind a delete", x.row(0), 1001);
    }

    private static void keysThatAreTheSame() {
        CHECKS.by("IllegalArgumentException if both are the same");
        TableChanger x = Made.table(0, 1, 2, 39, 3, 4);
        CHECKS.refused("rekey(0, 0)", Made.ARGUMENT, () -> x.rekey(0, 0));
        CHECKS.refused("rekey(39, 39)", Made.ARGUMENT, () -> x.rekey(39, 39));
        CHECKS.refused("rekey(1, 1), no row", Made.ARGUMENT, () -> x.rekey(1, 1));
        CHECKS.refused("rekey(-1, -1), no key", Made.INDEX, () -> x.rekey(-1, -1));
        CHECKS.refused("rekey(40, 40), no key", Made.INDEX, () -> x.rekey(40, 40));
        CHECKS.due("rows", x.row(0) == 1002 && x.row(39) == 3004 && x.rows() == 2);
    }

    private static void rekeyToARow() {
        CHECKS.by("NoSuchElementException if clients see no row with the first key; "
                + "IllegalStateException if clients see a row with the other one");
        TableChanger x = Made.table(0, 0, 0, 39, 3, 4);
        CHECKS.refused("a row to a row of zeros", Made.STATE, () -> x.rekey(39, 0));
        CHECKS.refused("a row to a row", Made.STATE, () -> x.rekey(0, 39));
        CHECKS.refused("no row to a row", Made.ELEMENT, () -> x.rekey(1, 39));
        CHECKS.refused("no row to no row", Made.ELEMENT, () -> x.rekey(1, 2));
        x.rekey(39, 38);
        CHECKS.due("a row to no row", x.row(38) == 3004 && x.row(39) == NONE);
        x.rekey(0, 39);
        CHECKS.due("a row of zeros to no row", x.row(39) == 0 && x.row(0) == NONE);
    }

    // ---- IDLE and COPYING

    private static void idleWritesAreNotNoted() {
        CHECKS.by("in the phase COPYING each write is noted: not in the phase IDLE");
        TableChanger x = Made.table(0, 1, 1);
        x.update(0, 2, 2);
        x.rekey(0, 39);
        x.delete(39);
        CHECKS.due("notes", x.notes(), 0);
        x.start(SPLIT, 0);
        CHECKS.due("notes behind start", x.notes(), 0);
    }

    private static void copyingWritesTheOldTable() {
        CHECKS.by("In the phases IDLE and COPYING they write to the old table");
        TableChanger x = Made.copied(Made.table(0, 100, 1, 39, 200, 2), SPLIT, 0);
        x.update(0, 300, 3);
        x.rekey(39, 38);
        x.insert(20, 400, 4);
        CHECKS.due("update", x.row(0), 300003);
        CHECKS.due("rekey", x.row(38) == 200002 && x.row(39) == NONE);
        CHECKS.due("insert", x.row(20), 400004);
        CHECKS.due("delete", x.delete(38), 200002);
        CHECKS.dueShadow(x, 0, 1, 0, 1);
        CHECKS.dueShadow(x, 39, 2, 0, 2);
        CHECKS.dueNoShadow(x, 38);
        CHECKS.dueNoShadow(x, 20);
    }

    private static void copyingNotesEachWrite() {
        CHECKS.by("each write is noted: the key that was written, or both keys");
        TableChanger x = new TableChanger();
        x.start(SPLIT, 0);
        CHECKS.due("no write", x.notes(), 0);
        x.insert(0, 1, 1);
        CHECKS.due("insert", x.notes(), 1);
        x.update(0, 1, 1);
        CHECKS.due("update to the same row", x.notes(), 2);
        x.delete(0);
        CHECKS.due("delete", x.notes(), 3);
        x.insert(0, 1, 1);
        CHECKS.due("the same key again", x.notes(), 4);
        x.rekey(0, 39);
        CHECKS.due("rekey", x.notes(), 6);
        x.giveUp();
        CHECKS.due("no change, no notes", x.notes(), 0);
    }

    private static void copyingNotesRefusedRows() {
        CHECKS.by("each write is noted: also of a row that does not fit");
        TableChanger x = Made.copied(new TableChanger(), NARROW, 0);
        x.insert(0, 1, 1);
        x.update(0, 1, 999);
        x.rekey(0, 39);
        x.delete(39);
        CHECKS.due("notes", x.notes(), 5);
    }

    private static void copyingNotesBelowAndAboveTheMark() {
        CHECKS.by("each write is noted: whether the mark is behind its key or not");
        TableChanger x = new TableChanger();
        x.start(SPLIT, 0);
        x.tick(0);
        CHECKS.due("mark", x.mark(), 8);
        x.insert(7, 1, 1);
        CHECKS.due("the last key before the mark", x.notes(), 1);
        x.insert(8, 1, 1);
        CHECKS.due("the key of the mark", x.notes(), 2);
        x.insert(0, 1, 1);
        x.insert(39, 1, 1);
        CHECKS.due("the first and the last key", x.notes(), 4);
    }

    private static void rekeyDownNotesTheLesserFirst() {
        CHECKS.by("both keys, one after the other, the lesser first: from the greater key");
        TableChanger x = Made.copied(Made.table(5, 123, 45), SPLIT, 0);
        x.setPace(1, 0);
        x.rekey(5, 4);
        x.tick(0);
        CHECKS.dueShadow(x, 4, 1, 23, 45);
        CHECKS.dueShadow(x, 5, 1, 23, 45);
        x.tick(0);
        CHECKS.dueNoShadow(x, 5);
        CHECKS.due("notes", x.notes(), 0);
    }

    private static void rekeyUpNotesTheLesserFirst() {
        CHECKS.by("both keys, one after the other, the lesser first: from the lesser key");
        TableChanger x = Made.copied(Made.table(4, 123, 45), SPLIT, 0);
        x.setPace(1, 0);
        x.rekey(4, 5);
        x.tick(0);
        CHECKS.dueNoShadow(x, 4);
        CHECKS.dueNoShadow(x, 5);
        x.tick(0);
        CHECKS.dueShadow(x, 5, 1, 23, 45);
        CHECKS.due("notes", x.notes(), 0);
    }

    private static void rekeyBetweenTheEnds() {
        CHECKS.by("both keys, one after the other, the lesser first: the first key and the last");
        TableChanger x = Made.copied(Made.table(39, 123, 45), SPLIT, 0);
        x.setPace(1, 0);
        x.rekey(39, 0);
        x.tick(0);
        CHECKS.due("key 0 is brought first", x.shadow(0, 2) == 45 && x.shadow(39, 2) == 45);
        x.tick(0);
        CHECKS.dueNoShadow(x, 39);
        x.rekey(0, 39);
        x.tick(0);
        CHECKS.due("key 0 is brought first", x.shadow(0, 2) == NONE && x.shadow(39, 2) == NONE);
        x.tick(0);
        CHECKS.dueShadow(x, 39, 1, 23, 45);
    }

    private static void notesOfACallThatThrows() {
        CHECKS.by("A call that throws an exception changes nothing: no write, no note");
        TableChanger x = Made.copied(Made.table(0, 1, 1, 39, 2, 2), SPLIT, 0);
        CHECKS.refused("insert", Made.STATE, () -> x.insert(0, 3, 3));
        CHECKS.refused("update", Made.ELEMENT, () -> x.update(1, 3, 3));
        CHECKS.refused("delete", Made.ELEMENT, () -> x.delete(1));
        CHECKS.refused("rekey", Made.ELEMENT, () -> x.rekey(1, 2));
        CHECKS.refused("rekey", Made.STATE, () -> x.rekey(0, 39));
        CHECKS.refused("rekey", Made.ARGUMENT, () -> x.rekey(0, 0));
        CHECKS.due("notes", x.notes(), 0);
        CHECKS.due("rows", x.row(0) == 1001 && x.row(39) == 2002 && x.rows() == 2);
    }

    // ---- CUT

    private static void cutInsertIsBroughtAtOnce() {
        CHECKS.by("In the phase CUT the keys that were written are brought at once: insert");
        TableChanger x = Made.cut(new TableChanger(), SPLIT, 0);
        x.insert(0, 123, 45);
        x.insert(39, 999, 0);
        CHECKS.dueShadow(x, 0, 1, 23, 45);
        CHECKS.dueShadow(x, 39, 9, 99, 0);
        CHECKS.due("seen", x.row(0) == 123045 && x.row(39) == 999000 && x.rows() == 2);
        CHECKS.due("notes", x.notes(), 0);
        CHECKS.due("behind", x.behind(), 0);
    }

    private static void cutUpdateIsBroughtAtOnce() {
        CHECKS.by("In the phase CUT the keys that were written are brought at once: update");
        TableChanger x = Made.cut(Made.full(1, 1), SPLIT, 0);
        x.update(0, 123, 45);
        x.update(39, 999, 0);
        CHECKS.dueShadow(x, 0, 1, 23, 45);
        CHECKS.dueShadow(x, 39, 9, 99, 0);
        CHECKS.dueShadow(x, 1, 0, 1, 1);
        CHECKS.due("seen", x.row(0) == 123045 && x.row(39) == 999000 && x.rows() == 40);
        CHECKS.due("notes", x.notes(), 0);
        CHECKS.due("behind", x.behind(), 0);
    }

    private static void cutDeleteIsBroughtAtOnce() {
        CHECKS.by("In the phase CUT the keys that were written are brought at once: delete");
        TableChanger x = Made.cut(Made.full(1, 1), SPLIT, 0);
        for (int key = 0; key < 40; key++) {
            CHECKS.due("delete", x.delete(key), 1001);
            CHECKS.due("no row of the shadow", x.shadow(key, 0), NONE);
            CHECKS.due("no row", x.row(key), NONE);
        }
        CHECKS.due("none is left", x.rows() == 0 && x.shadowRows() == 0);
        CHECKS.due("notes", x.notes(), 0);
        CHECKS.due("behind", x.behind(), 0);
    }

    private static void cutRekeyIsBroughtAtOnce() {
        CHECKS.by("In the phase CUT the keys that were written are brought at once: rekey");
        TableChanger x = Made.cut(Made.table(0, 123, 45), SPLIT, 0);
        x.rekey(0, 39);
        CHECKS.dueNoShadow(x, 0);
        CHECKS.dueShadow(x, 39, 1, 23, 45);
        CHECKS.due("seen", x.row(0) == NONE && x.row(39) == 123045 && x.rows() == 1);
        x.rekey(39, 0);
        CHECKS.dueNoShadow(x, 39);
        CHECKS.dueShadow(x, 0, 1, 23, 45);
        CHECKS.due("notes", x.notes(), 0);
        CHECKS.due("behind", x.behind(), 0);
    }

    private static void cutWritesTheOldTableToo() {
        CHECKS.by("In the phase CUT they write to the old table, too");
        TableChanger x = Made.cut(Made.table(0, 1, 1, 1, 2, 2, 39, 3, 3), NARROW, 10);
        x.insert(20, 4, 4);
        x.update(0, 5, 5);
        x.delete(1);
        x.rekey(39, 38);
        x.undo();
        CHECKS.due("insert", x.row(20), 4004);
        CHECKS.due("update", x.row(0), 5005);
        CHECKS.due("delete", x.row(1), NONE);
        CHECKS.due("rekey", x.row(38) == 3003 && x.row(39) == NONE);
        x.giveUp();
        CHECKS.due("rows of the old table", x.rows(), 3);
    }

    private static void cutRefusesWhatDoesNotFit() {
        CHECKS.by("a row that does not fit cannot be written then");
        TableChanger x = Made.cut(Made.table(0, 1, 1), NARROW, 500);
        CHECKS.refused("insert, b 501", Made.ARGUMENT, () -> x.insert(39, 1, 501));
        CHECKS.refused("update, b 501", Made.ARGUMENT, () -> x.update(0, 1, 501));
        CHECKS.refused("insert where a row is", Made.ARGUMENT, () -> x.insert(0, 1, 501));
        CHECKS.refused("update of no row", Made.ARGUMENT, () -> x.update(39, 1, 501));
        CHECKS.refused("insert at no key", Made.INDEX, () -> x.insert(40, 1, 501));
        CHECKS.due("as it was", x.row(0) == 1001 && x.rows() == 1 && x.shadowRows() == 1);
        CHECKS.due("none is refused", !x.isRefused(0) && !x.isRefused(39));
        x.insert(39, 1, 500);
        x.update(0, 1, 500);
        CHECKS.due("b 500", x.row(0) == 1500 && x.row(39) == 1500);
    }

    private static void cutAtTheLeastAndTheGreatestParameter() {
        CHECKS.by("a row that does not fit cannot be written then: the parameter 0 or 999");
        TableChanger least = Made.cut(new TableChanger(), NARROW, 0);
        CHECKS.refused("insert, b 1", Made.ARGUMENT, () -> least.insert(0, 0, 1));
        least.insert(0, 0, 0);
        CHECKS.refused("update, b 1", Made.ARGUMENT, () -> least.update(0, 0, 1));
        CHECKS.dueShadow(least, 0, 0, 0, 0);
        TableChanger greatest = Made.cut(new TableChanger(), NARROW, 999);
        CHECKS.refused("insert, b 1000", Made.ARGUMENT, () -> greatest.insert(0, 0, 1000));
        greatest.insert(0, 0, 999);
        CHECKS.dueShadow(greatest, 0, 0, 999, 0);
    }

    private static void cutTakesAllThatFits() {
        CHECKS.by("otherwise the row does not fit: of SPLIT and SCALE each row fits");
        for (int alteration : new int[] {SPLIT, SCALE}) {
            TableChanger x = Made.cut(Made.table(0, 0, 0), alteration, 0);
            x.insert(39, 999, 999);
            x.update(0, 999, 999);
            CHECKS.due("rows", x.row(0) == 999999 && x.row(39) == 999999);
            CHECKS.due("shadowRows", x.shadowRows(), 2);
        }
    }

    private static void copyingTakesWhatDoesNotFit() {
        CHECKS.by("it does not fit in the phase CUT: in IDLE and COPYING it is written");
        TableChanger x = Made.copied(Made.table(0, 1, 0), NARROW, 0);
        x.insert(39, 1, 999);
        x.update(0, 1, 1);
        CHECKS.due("COPYING", x.row(0) == 1001 && x.row(39) == 1999);
        x.cutOver(2);
        CHECKS.refused("CUT", Made.ARGUMENT, () -> x.insert(1, 1, 1));
        x.undo();
        x.insert(1, 1, 1);
        CHECKS.due("undone", x.row(1), 1001);
        x.cutOver(1);
        x.finish();
        x.insert(1, 1, 1);
        x.update(1, 1, 2);
        CHECKS.due("IDLE", x.row(1), 1002);
    }

    // ---- what clients see

    private static void seenWhenCut() {
        CHECKS.by("The table that clients see is the old one, in the phase CUT that of the rows "
                + "of the old table whose keys are in the shadow.");
        TableChanger x = Made.table(0, 123, 10, 1, 234, 11, 38, 345, 9, 39, 456, 999);
        CHECKS.due("IDLE", x.rows(), 4);
        x.start(NARROW, 10);
        CHECKS.due("COPYING, an empty shadow", x.rows(), 4);
        x.setPace(40, 0);
        x.tick(0);
        CHECKS.due("COPYING", x.rows() == 4 && x.row(1) == 234011 && x.row(39) == 456999);
        x.cutOver(0);
        CHECKS.due("CUT", x.rows(), 2);
        CHECKS.due("rows in the shadow, by a and b", x.row(0) == 123010 && x.row(38) == 345009);
        CHECKS.due("rows that are not", x.row(1) == NONE && x.row(39) == NONE);
        x.undo();
        CHECKS.due("undone", x.rows() == 4 && x.row(1) == 234011 && x.row(39) == 456999);
    }

    private static void unseenWhenCut() {
        CHECKS.by("NoSuchElementException if clients see no row with this key: in the phase CUT");
        TableChanger x = Made.cut(Made.table(0, 1, 11, 39, 2, 10), NARROW, 10);
        CHECKS.refused("update", Made.ELEMENT, () -> x.update(0, 1, 10));
        CHECKS.refused("delete", Made.ELEMENT, () -> x.delete(0));
        CHECKS.refused("rekey", Made.ELEMENT, () -> x.rekey(0, 1));
        CHECKS.refused("rekey to a row", Made.ELEMENT, () -> x.rekey(0, 39));
        CHECKS.due("refused", x.isRefused(0));
        x.undo();
        CHECKS.due("the old row is there as it was", x.row(0), 1011);
    }

    private static void unseenKeyIsFree() {
        CHECKS.by("IllegalStateException if clients see a row with this key: in the phase CUT");
        TableChanger x = Made.cut(Made.table(0, 1, 11, 1, 2, 12, 39, 3, 10), NARROW, 10);
        x.insert(0, 4, 5);
        CHECKS.due("insert where clients see none", x.row(0), 4005);
        CHECKS.dueShadow(x, 0, 4, 5, 0);
        CHECKS.due("refused", !x.isRefused(0) && x.isRefused(1));
        x.rekey(39, 1);
        CHECKS.due("rekey to where clients see none", x.row(1), 3010);
        CHECKS.dueShadow(x, 1, 3, 10, 0);
        CHECKS.dueNoShadow(x, 39);
        CHECKS.due("not refused any more", !x.isRefused(1));
        CHECKS.refused("insert where clients see one", Made.STATE, () -> x.insert(1, 1, 1));
        CHECKS.refused("rekey to where clients see one", Made.STATE, () -> x.rekey(0, 1));
        CHECKS.due("rows", x.rows(), 2);
    }
}
