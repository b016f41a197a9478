/** The sentences of the section 'Copying' at their edges, and the promises 6 to 12. */
public final class CopyingTest {
    private static final Checks CHECKS = new Checks("CopyingTest");
    private static final int NONE = TableChanger.NONE;
    private static final int SPLIT = TableChanger.SPLIT;
    private static final int NARROW = TableChanger.NARROW;
    private static final int SCALE = TableChanger.SCALE;
    private static final int[] NO_COUNTS = {-1, 1001, Integer.MIN_VALUE, Integer.MAX_VALUE};

    private CopyingTest() {
    }

    public static void main(String[] args) {
        bringARow();
        bringARowThatDoesNotFit();
        bringNoRow();
        bringWhatIsThereNow();
        refusedWhenBroughtLast();
        refusedAtTheEdgeOfFitting();
        refusedInThisChange();
        refusedWhenIdle();
        startWhenNotIdle();
        chunksThatAreTaken();
        lagsThatAreTaken();
        paceAtFirst();
        paceThatIsRefused();
        paceInEachPhase();
        lagAtTheGreatest();
        lagsThatAreTold();
        lagAboveTheGreatestPlaysNoNotes();
        chunkOfOne();
        chunkOfAll();
        chunkNotBeyondTheLastKey();
        chunkThatEndsAtTheLastKey();
        copyingPlaysNoNotes();
        tickWithoutNotes();
        tickWithFewerNotesThanTheChunk();
        tickWithAsManyNotesAsTheChunk();
        tickWithMoreNotesThanTheChunk();
        tickWithManyNotes();
        notesThatComeWhileNotesArePlayed();
        tickWhenNotCopying();
        mostThatIsTaken();
        mostAtTheNotes();
        cutOverWithoutNotes();
        cutOverWithManyNotes();
        cutOverBeforeTheMark();
        cutOverWhenNotCopying();
        cutOverPlaysInOrder();
        undoAtTheEdges();
        undoKeepsTheShadow();
        undoWhenNotCut();
        finishOfAnEmptyTable();
        finishOfAFullTable();
        finishWithNoRowThatFits();
        finishAtTheFirstAndTheLastKey();
        finishWhenNotCut();
        giveUpAtTheMarkZero();
        giveUpOfAFullTable();
        giveUpWithNotes();
        giveUpWhenNotCopying();
        CHECKS.end();
    }

    // ---- to bring a key

    private static void bringARow() {
        CHECKS.by("To bring a key is to make the shadow have its row, if there is one and it fits");
        TableChanger x = Made.copied(Made.table(0, 1, 10, 39, 2, 10), NARROW, 10);
        CHECKS.dueShadow(x, 0, 1, 10, 0);
        CHECKS.dueShadow(x, 39, 2, 10, 0);
        x.update(0, 3, 9);
        x.update(39, 4, 0);
        x.tick(0);
        CHECKS.dueShadow(x, 0, 3, 9, 0);
        CHECKS.dueShadow(x, 39, 4, 0, 0);
        CHECKS.due("shadowRows", x.shadowRows(), 2);
    }

    private static void bringARowThatDoesNotFit() {
        CHECKS.by("To bring a key is to make the shadow have its row, if it fits, otherwise none");
        TableChanger x = Made.copied(Made.table(0, 1, 10, 39, 2, 10), NARROW, 10);
        x.update(0, 1, 11);
        x.update(39, 2, 999);
        CHECKS.due("before", x.shadowRows(), 2);
        x.tick(0);
        CHECKS.dueNoShadow(x, 0);
        CHECKS.dueNoShadow(x, 39);
        CHECKS.due("shadowRows", x.shadowRows(), 0);
    }

    private static void bringNoRow() {
        CHECKS.by("To bring a key is to make the shadow have its row, if there is one, "
                + "otherwise none");
        TableChanger x = Made.copied(Made.table(0, 1, 10, 39, 2, 10), NARROW, 10);
        x.delete(0);
        x.delete(39);
        CHECKS.due("before", x.shadowRows(), 2);
        x.tick(0);
        CHECKS.dueNoShadow(x, 0);
        CHECKS.dueNoShadow(x, 39);
        CHECKS.due("shadowRows", x.shadowRows(), 0);
    }

    private static void bringWhatIsThereNow() {
        CHECKS.by("what the old table has for it now");
        TableChanger x = Made.copied(Made.table(0, 123, 1), SPLIT, 0);
        x.setPace(1, 0);
        x.update(0, 234, 2);
        x.update(0, 345, 3);
        x.tick(0);
        CHECKS.dueShadow(x, 0, 3, 45, 3);
        CHECKS.due("a note is left", x.notes(), 1);
        CHECKS.due("and none is behind", x.behind(), 0);
    }

    private static void refusedWhenBroughtLast() {
        CHECKS.by("A key is refused if the old table had a row for it that did not fit when the "
                + "key was brought last, whatever it has now");
        TableChanger x = Made.copied(Made.table(0, 1, 11, 1, 1, 11, 39, 1, 10), NARROW, 10);
        CHECKS.due("brought", x.isRefused(0) && x.isRefused(1) && !x.isRefused(39));
        x.update(0, 1, 10);
        x.delete(1);
        x.update(39, 1, 11);
        CHECKS.due("not brought", x.isRefused(0) && x.isRefused(1) && !x.isRefused(39));
        x.tick(0);
        CHECKS.due("brought again", !x.isRefused(0) && !x.isRefused(1) && x.isRefused(39));
        x.cutOver(0);
        CHECKS.due("cut over", !x.isRefused(0) && !x.isRefused(1) && x.isRefused(39));
        x.undo();
        CHECKS.due("undone", !x.isRefused(0) && !x.isRefused(1) && x.isRefused(39));
    }

    private static void refusedAtTheEdgeOfFitting() {
        CHECKS.by("a row that did not fit: not one that fits, and not if there was no row");
        TableChanger x = Made.copied(Made.table(0, 1, 10, 1, 1, 11, 39, 0, 999), NARROW, 10);
        CHECKS.due("b is the parameter", !x.isRefused(0));
        CHECKS.due("b is one more", x.isRefused(1));
        CHECKS.due("no row", !x.isRefused(2) && !x.isRefused(38));
        CHECKS.due("the last key", x.isRefused(39));
        TableChanger all = Made.copied(Made.full(0, 1), NARROW, 0);
        TableChanger none = Made.copied(Made.full(0, 0), NARROW, 0);
        for (int key = 0; key < 40; key++) {
            CHECKS.due("all are refused", all.isRefused(key));
            CHECKS.due("none is refused", !none.isRefused(key));
        }
    }

    private static void refusedInThisChange() {
        CHECKS.by("when the key was brought last in this change");
        TableChanger x = Made.copied(Made.full(0, 1), NARROW, 0);
        x.giveUp();
        x.start(NARROW, 0);
        CHECKS.due("a new change", !x.isRefused(0) && !x.isRefused(39));
        x.setPace(1, 0);
        x.tick(0);
        CHECKS.due("the first key is brought", x.isRefused(0) && !x.isRefused(1));
    }

    private static void refusedWhenIdle() {
        CHECKS.by("in the phase IDLE none is");
        TableChanger x = Made.full(0, 999);
        TableChanger given = Made.copied(Made.full(0, 1), NARROW, 0);
        given.giveUp();
        TableChanger finished = Made.cut(Made.full(0, 1), NARROW, 0);
        finished.finish();
        for (int key = 0; key < 40; key++) {
            CHECKS.due("new", !x.isRefused(key));
            CHECKS.due("given up", !given.isRefused(key));
            CHECKS.due("finished", !finished.isRefused(key));
        }
    }

    // ---- start and setPace

    private static void startWhenNotIdle() {
        CHECKS.by("IllegalStateException if the phase is not IDLE: start");
        TableChanger x = Made.table(0, 1, 10);
        x.start(NARROW, 10);
        CHECKS.refused("COPYING, mark 0", Made.STATE, () -> x.start(SPLIT, 0));
        x.setPace(40, 0);
        x.tick(0);
        CHECKS.refused("COPYING, mark 40", Made.STATE, () -> x.start(SPLIT, 0));
        CHECKS.dueShadow(x, 0, 1, 10, 0);
        x.cutOver(0);
        CHECKS.refused("CUT", Made.STATE, () -> x.start(SPLIT, 0));
        CHECKS.refused("CUT, no alteration", Made.ARGUMENT, () -> x.start(3, 0));
        CHECKS.refused("CUT, no parameter", Made.ARGUMENT, () -> x.start(SPLIT, 1000));
        x.undo();
        CHECKS.refused("undone", Made.STATE, () -> x.start(SPLIT, 0));
        x.giveUp();
        x.start(SPLIT, 0);
        CHECKS.due("IDLE", x.phase() == TableChanger.COPYING && x.mark() == 0);
    }

    private static void chunksThatAreTaken() {
        CHECKS.by("chunk: 1 to 40");
        for (int chunk : new int[] {1, 2, 39, 40}) {
            TableChanger x = new TableChanger();
            x.setPace(chunk, 0);
            x.start(SPLIT, 0);
            CHECKS.due("tick", x.tick(0), chunk);
        }
        TableChanger x = new TableChanger();
        for (int no : new int[] {0, -1, 41, Integer.MIN_VALUE, Integer.MAX_VALUE}) {
            CHECKS.refused("setPace(" + no + ", 0)", Made.ARGUMENT, () -> x.setPace(no, 0));
        }
    }

    private static void lagsThatAreTaken() {
        CHECKS.by("lag: 0 to 100");
        for (int lag : new int[] {0, 1, 99, 100}) {
            TableChanger x = new TableChanger();
            x.setPace(8, lag);
            x.start(SPLIT, 0);
            CHECKS.due("tick above it", x.tick(lag + 1), 0);
            CHECKS.due("tick", x.tick(lag), 8);
        }
        TableChanger x = new TableChanger();
        for (int no : new int[] {-1, 101, Integer.MIN_VALUE, Integer.MAX_VALUE}) {
            CHECKS.refused("setPace(1, " + no + ")", Made.ARGUMENT, () -> x.setPace(1, no));
        }
    }

    private static void paceAtFirst() {
        CHECKS.by("the greatest lag, 10 at first; the chunk, 8 at first");
        TableChanger x = new TableChanger();
        x.start(SPLIT, 0);
        CHECKS.due("tick(11)", x.tick(11), 0);
        CHECKS.due("mark", x.mark(), 0);
        for (int mark = 8; mark <= 40; mark += 8) {
            CHECKS.due("tick(10)", x.tick(10), 8);
            CHECKS.due("mark", x.mark(), mark);
        }
    }

    private static void paceThatIsRefused() {
        CHECKS.by("A call that throws an exception changes nothing: setPace");
        TableChanger x = new TableChanger();
        x.setPace(3, 7);
        CHECKS.refused("setPace(0, 50)", Made.ARGUMENT, () -> x.setPace(0, 50));
        CHECKS.refused("setPace(41, 50)", Made.ARGUMENT, () -> x.setPace(41, 50));
        CHECKS.refused("setPace(20, -1)", Made.ARGUMENT, () -> x.setPace(20, -1));
        CHECKS.refused("setPace(20, 101)", Made.ARGUMENT, () -> x.setPace(20, 101));
        x.start(SPLIT, 0);
        CHECKS.due("tick above the lag", x.tick(8), 0);
        CHECKS.due("tick", x.tick(7), 3);
    }

    private static void paceInEachPhase() {
        CHECKS.by("Sets the chunk and the greatest lag: in each phase, until they are set again");
        TableChanger x = new TableChanger();
        x.setPace(40, 0);
        x.start(SPLIT, 0);
        CHECKS.due("set when IDLE", x.tick(1) == 0 && x.tick(0) == 40);
        x.giveUp();
        x.start(SPLIT, 0);
        CHECKS.due("in the next change", x.tick(1) == 0 && x.tick(0) == 40);
        x.giveUp();
        x.start(SPLIT, 0);
        x.setPace(39, 1);
        CHECKS.due("set when COPYING", x.tick(2) == 0 && x.tick(1) == 39 && x.tick(0) == 1);
        x.cutOver(0);
        x.setPace(1, 100);
        x.finish();
        x.start(SPLIT, 0);
        CHECKS.due("set when CUT", x.tick(101) == 0 && x.tick(100) == 1);
    }

    // ---- tick

    private static void lagAtTheGreatest() {
        CHECKS.by("If the lag is above the greatest lag, the tick does nothing.");
        TableChanger x = Made.full(1, 1);
        x.setPace(1, 50);
        x.start(SPLIT, 0);
        CHECKS.due("above", x.tick(51), 0);
        CHECKS.due("the most above", x.tick(1000), 0);
        CHECKS.due("nothing", x.mark() == 0 && x.shadowRows() == 0 && x.behind() == 40);
        CHECKS.due("at", x.tick(50), 1);
        CHECKS.due("below", x.tick(49), 1);
        CHECKS.due("the most below", x.tick(0), 1);
        CHECKS.due("three keys", x.mark() == 3 && x.shadowRows() == 3 && x.behind() == 37);
    }

    private static void lagsThatAreTold() {
        CHECKS.by("lag: 0 to 1000");
        TableChanger x = new TableChanger();
        x.start(SPLIT, 0);
        for (int no : NO_COUNTS) {
            CHECKS.refused("tick(" + no + ")", Made.ARGUMENT, () -> x.tick(no));
        }
        CHECKS.due("mark", x.mark(), 0);
        CHECKS.due("tick(1000)", x.tick(1000), 0);
        CHECKS.due("tick(0)", x.tick(0), 8);
    }

    private static void lagAboveTheGreatestPlaysNoNotes() {
        CHECKS.by("If the lag is above the greatest lag, the tick does nothing: with notes");
        TableChanger x = Made.copied(new TableChanger(), SPLIT, 0);
        x.insert(0, 1, 1);
        CHECKS.due("above", x.tick(11), 0);
        CHECKS.due("nothing", x.notes() == 1 && x.shadowRows() == 0);
        CHECKS.due("at", x.tick(10), 1);
        CHECKS.due("played", x.notes() == 0 && x.shadowRows() == 1);
    }

    private static void chunkOfOne() {
        CHECKS.by("as many keys as the chunk, from the mark on, are brought, by rising numbers, "
                + "and the mark is behind them then: the chunk 1");
        TableChanger x = Made.full(1, 1);
        x.setPace(1, 0);
        x.start(SPLIT, 0);
        for (int key = 0; key < 40; key++) {
            CHECKS.due("not yet", x.shadow(key, 0), NONE);
            CHECKS.due("tick", x.tick(0), 1);
            CHECKS.due("mark", x.mark(), key + 1);
            CHECKS.due("brought", x.shadow(key, 0), 0);
            CHECKS.due("shadowRows", x.shadowRows(), key + 1);
        }
    }

    private static void chunkOfAll() {
        CHECKS.by("as many keys as the chunk, from the mark on, are brought: the chunk 40");
        TableChanger x = Made.full(1, 1);
        x.setPace(40, 0);
        x.start(SPLIT, 0);
        CHECKS.due("tick", x.tick(0), 40);
        CHECKS.due("mark", x.mark(), 40);
        CHECKS.due("shadowRows", x.shadowRows(), 40);
        TableChanger empty = new TableChanger();
        empty.setPace(40, 0);
        empty.start(SPLIT, 0);
        CHECKS.due("keys without a row are brought, too", empty.tick(0), 40);
        CHECKS.due("shadowRows", empty.shadowRows(), 0);
    }

    private static void chunkNotBeyondTheLastKey() {
        CHECKS.by("but not beyond 39");
        TableChanger x = Made.full(1, 1);
        x.setPace(39, 0);
        x.start(SPLIT, 0);
        CHECKS.due("tick", x.tick(0), 39);
        CHECKS.due("the last key is not brought", x.mark() == 39 && x.shadow(39, 0) == NONE);
        x.setPace(40, 0);
        CHECKS.due("one key is left of forty", x.tick(0), 1);
        CHECKS.due("the last key is brought", x.mark() == 40 && x.shadow(39, 0) == 0);
        TableChanger third = new TableChanger();
        third.setPace(17, 0);
        third.start(SPLIT, 0);
        CHECKS.due("17 keys", third.tick(0), 17);
        CHECKS.due("34 keys", third.tick(0) == 17 && third.mark() == 34);
        CHECKS.due("6 keys are left", third.tick(0) == 6 && third.mark() == 40);
    }

    private static void chunkThatEndsAtTheLastKey() {
        CHECKS.by("as many keys as the chunk, not beyond 39: a chunk that ends there");
        TableChanger x = Made.full(1, 1);
        x.setPace(20, 0);
        x.start(SPLIT, 0);
        CHECKS.due("tick", x.tick(0) == 20 && x.mark() == 20);
        CHECKS.due("half is brought", x.shadow(19, 0) == 0 && x.shadow(20, 0) == NONE);
        CHECKS.due("tick", x.tick(0) == 20 && x.mark() == 40);
        CHECKS.due("all is brought", x.shadowRows(), 40);
        CHECKS.due("then no key, and no note", x.tick(0) == 0 && x.mark() == 40);
    }

    private static void copyingPlaysNoNotes() {
        CHECKS.by("if the mark is not 40, keys are brought; if it is 40, notes are played");
        TableChanger x = Made.table(0, 1, 1);
        x.setPace(39, 0);
        x.start(SPLIT, 0);
        x.tick(0);
        x.update(0, 223, 5);
        x.setPace(40, 0);
        CHECKS.due("at the mark 39 one key is brought", x.tick(0), 1);
        CHECKS.due("and no note is played", x.notes() == 1 && x.shadow(0, 0) == 0);
        CHECKS.due("at the mark 40 the note is played", x.tick(0), 1);
        CHECKS.due("it is gone", x.notes(), 0);
        CHECKS.dueShadow(x, 0, 2, 23, 5);
    }

    private static void tickWithoutNotes() {
        CHECKS.by("as many notes as the chunk are played: no notes");
        TableChanger x = Made.copied(Made.full(1, 1), SPLIT, 0);
        CHECKS.due("tick", x.tick(0), 0);
        CHECKS.due("tick", x.tick(10), 0);
        CHECKS.due("as it was", x.mark() == 40 && x.notes() == 0 && x.shadowRows() == 40);
    }

    private static void tickWithFewerNotesThanTheChunk() {
        CHECKS.by("as many notes as the chunk are played, and gone: fewer notes");
        TableChanger x = Made.copied(new TableChanger(), SPLIT, 0);
        x.insert(0, 1, 1);
        x.insert(39, 1, 1);
        x.setPace(3, 0);
        CHECKS.due("tick", x.tick(0), 2);
        CHECKS.due("notes", x.notes(), 0);
        CHECKS.due("shadowRows", x.shadowRows(), 2);
        CHECKS.due("tick", x.tick(0), 0);
    }

    private static void tickWithAsManyNotesAsTheChunk() {
        CHECKS.by("as many notes as the chunk are played, and gone: as many notes");
        TableChanger x = Made.copied(new TableChanger(), SPLIT, 0);
        for (int key = 0; key < 40; key++) {
            x.insert(key, 1, 1);
        }
        CHECKS.due("notes", x.notes(), 40);
        CHECKS.due("tick", x.tick(0), 40);
        CHECKS.due("notes", x.notes(), 0);
        CHECKS.due("shadowRows", x.shadowRows(), 40);
    }

    private static void tickWithMoreNotesThanTheChunk() {
        CHECKS.by("as many notes as the chunk, the first ones first, are played, and gone");
        TableChanger x = Made.copied(new TableChanger(), SPLIT, 0);
        x.insert(39, 1, 1);
        x.insert(20, 1, 1);
        x.insert(0, 1, 1);
        x.setPace(2, 0);
        CHECKS.due("tick", x.tick(0), 2);
        CHECKS.due("a note is left", x.notes(), 1);
        CHECKS.due("the first notes", x.shadow(39, 0) == 0 && x.shadow(20, 0) == 0);
        CHECKS.due("not the last one", x.shadow(0, 0), NONE);
        CHECKS.due("tick", x.tick(0), 1);
        CHECKS.due("the last one", x.notes() == 0 && x.shadow(0, 0) == 0);
    }

    private static void tickWithManyNotes() {
        CHECKS.by("as many notes as the chunk are played, and gone: a thousand notes");
        TableChanger x = Made.noted(1000);
        CHECKS.due("tick", x.tick(0), 40);
        CHECKS.due("notes", x.notes(), 960);
        CHECKS.due("tick", x.tick(10), 40);
        CHECKS.due("notes", x.notes(), 920);
        CHECKS.due("cutOver", x.cutOver(920), 920);
    }

    private static void notesThatComeWhileNotesArePlayed() {
        CHECKS.by("notes in the order in which they came");
        TableChanger x = Made.copied(new TableChanger(), SPLIT, 0);
        x.setPace(1, 0);
        x.insert(3, 1, 1);
        x.insert(2, 1, 1);
        x.tick(0);
        x.insert(1, 1, 1);
        x.tick(0);
        CHECKS.due("2 before 1", x.shadow(2, 0) == 0 && x.shadow(1, 0) == NONE);
        x.insert(0, 1, 1);
        x.tick(0);
        CHECKS.due("1 before 0", x.shadow(1, 0) == 0 && x.shadow(0, 0) == NONE);
        CHECKS.due("notes", x.notes(), 1);
        x.tick(0);
        CHECKS.due("all", x.shadowRows() == 4 && x.notes() == 0);
    }

    private static void tickWhenNotCopying() {
        CHECKS.by("IllegalStateException if the phase is not COPYING: tick");
        TableChanger x = new TableChanger();
        CHECKS.refused("IDLE", Made.STATE, () -> x.tick(0));
        CHECKS.refused("IDLE, above the lag", Made.STATE, () -> x.tick(1000));
        CHECKS.refused("IDLE, no lag", Made.ARGUMENT, () -> x.tick(1001));
        TableChanger y = Made.cut(new TableChanger(), SPLIT, 0);
        CHECKS.refused("CUT", Made.STATE, () -> y.tick(0));
        CHECKS.refused("CUT, above the lag", Made.STATE, () -> y.tick(1000));
        CHECKS.refused("CUT, no lag", Made.ARGUMENT, () -> y.tick(-1));
        y.undo();
        CHECKS.due("undone", y.tick(0), 0);
    }

    // ---- cutOver

    private static void mostThatIsTaken() {
        CHECKS.by("most: 0 to 1000: the most notes");
        TableChanger x = Made.copied(Made.table(0, 1, 1), SPLIT, 0);
        for (int no : NO_COUNTS) {
            CHECKS.refused("cutOver(" + no + ")", Made.ARGUMENT, () -> x.cutOver(no));
        }
        CHECKS.due("phase", x.phase(), TableChanger.COPYING);
        CHECKS.due("cutOver(0)", x.cutOver(0), 0);
        x.undo();
        CHECKS.due("cutOver(1000)", x.cutOver(1000), 0);
        CHECKS.due("phase", x.phase(), TableChanger.CUT);
    }

    private static void mostAtTheNotes() {
        CHECKS.by("at most as many notes as told may be there: they are played and gone");
        TableChanger x = Made.copied(new TableChanger(), SPLIT, 0);
        x.insert(0, 1, 1);
        CHECKS.refused("one note, most 0", Made.STATE, () -> x.cutOver(0));
        x.insert(20, 1, 1);
        x.insert(39, 1, 1);
        CHECKS.refused("three notes, most 2", Made.STATE, () -> x.cutOver(2));
        CHECKS.due("as it was", x.phase() == TableChanger.COPYING && x.notes() == 3);
        CHECKS.due("none is played", x.shadowRows(), 0);
        CHECKS.due("three notes, most 3", x.cutOver(3), 3);
        CHECKS.due("gone", x.phase() == TableChanger.CUT && x.notes() == 0);
        CHECKS.due("played", x.shadowRows() == 3 && x.rows() == 3);
        x.undo();
        x.delete(0);
        CHECKS.due("one note, most 2", x.cutOver(2), 1);
        CHECKS.due("played", x.shadowRows() == 2 && x.rows() == 2);
    }

    private static void cutOverWithoutNotes() {
        CHECKS.by("Returns how many notes were played: none");
        TableChanger empty = Made.copied(new TableChanger(), SPLIT, 0);
        CHECKS.due("an empty table", empty.cutOver(0), 0);
        CHECKS.due("rows", empty.rows(), 0);
        TableChanger full = Made.copied(Made.full(1, 1), SPLIT, 0);
        CHECKS.due("a full table", full.cutOver(0), 0);
        CHECKS.due("rows", full.rows(), 40);
    }

    private static void cutOverWithManyNotes() {
        CHECKS.by("there are more notes: 1000 and 1001");
        TableChanger x = Made.noted(1000);
        CHECKS.refused("1000 notes, most 999", Made.STATE, () -> x.cutOver(999));
        CHECKS.due("1000 notes, most 1000", x.cutOver(1000), 1000);
        CHECKS.due("notes", x.notes(), 0);
        TableChanger y = Made.noted(1001);
        CHECKS.refused("1001 notes, most 1000", Made.STATE, () -> y.cutOver(1000));
        CHECKS.refused("1001 notes, most 1001", Made.ARGUMENT, () -> y.cutOver(1001));
        CHECKS.due("notes", y.notes(), 1001);
    }

    private static void cutOverBeforeTheMark() {
        CHECKS.by("IllegalStateException if the mark is not 40");
        TableChanger x = new TableChanger();
        x.start(SPLIT, 0);
        CHECKS.refused("mark 0", Made.STATE, () -> x.cutOver(1000));
        x.setPace(39, 0);
        x.tick(0);
        CHECKS.refused("mark 39", Made.STATE, () -> x.cutOver(1000));
        CHECKS.refused("mark 39, no count", Made.ARGUMENT, () -> x.cutOver(1001));
        x.tick(0);
        CHECKS.due("mark 40", x.cutOver(0), 0);
    }

    private static void cutOverWhenNotCopying() {
        CHECKS.by("IllegalStateException if the phase is not COPYING: cutOver");
        TableChanger x = new TableChanger();
        CHECKS.refused("IDLE", Made.STATE, () -> x.cutOver(0));
        CHECKS.refused("IDLE, no count", Made.ARGUMENT, () -> x.cutOver(-1));
        Made.cut(x, SPLIT, 0);
        CHECKS.refused("CUT", Made.STATE, () -> x.cutOver(0));
        CHECKS.refused("CUT", Made.STATE, () -> x.cutOver(1000));
        CHECKS.refused("CUT, no count", Made.ARGUMENT, () -> x.cutOver(1001));
        x.finish();
        CHECKS.refused("finished", Made.STATE, () -> x.cutOver(0));
        Made.copied(x, SPLIT, 0);
        x.giveUp();
        CHECKS.refused("given up", Made.STATE, () -> x.cutOver(0));
    }

    private static void cutOverPlaysInOrder() {
        CHECKS.by("they are played and gone, and the phase is CUT: rows that do not fit");
        TableChanger x = Made.copied(Made.table(0, 1, 10, 39, 1, 11), NARROW, 10);
        x.update(0, 1, 11);
        x.update(39, 1, 10);
        x.insert(1, 1, 11);
        x.delete(1);
        CHECKS.due("cutOver", x.cutOver(4), 4);
        CHECKS.due("refused", x.isRefused(0) && !x.isRefused(39) && !x.isRefused(1));
        CHECKS.dueNoShadow(x, 0);
        CHECKS.dueShadow(x, 39, 1, 10, 0);
        CHECKS.due("behind", x.behind(), 0);
        CHECKS.due("rows", x.rows() == 1 && x.row(39) == 1010);
    }

    // ---- undo

    private static void undoAtTheEdges() {
        CHECKS.by("To undo is to have the phase COPYING again, with the mark 40 and no notes.");
        TableChanger x = Made.copied(Made.table(0, 1, 1), SPLIT, 0);
        x.update(0, 2, 2);
        x.cutOver(1);
        x.insert(39, 3, 3);
        x.delete(0);
        x.undo();
        CHECKS.due("phase", x.phase(), TableChanger.COPYING);
        CHECKS.due("mark", x.mark(), 40);
        CHECKS.due("notes", x.notes(), 0);
        CHECKS.due("a tick has nothing to play", x.tick(0), 0);
        CHECKS.due("a cut-over has nothing to play", x.cutOver(0), 0);
        x.undo();
        x.update(39, 4, 4);
        CHECKS.due("writes are noted again", x.notes() == 1 && x.behind() == 1);
        CHECKS.due("and played", x.tick(0) == 1 && x.behind() == 0);
    }

    private static void undoKeepsTheShadow() {
        CHECKS.by("which can be undone: the shadow and the old table as they are");
        TableChanger x = Made.cut(Made.table(0, 1, 10, 39, 1, 11), NARROW, 10);
        x.update(0, 2, 9);
        x.undo();
        CHECKS.dueShadow(x, 0, 2, 9, 0);
        CHECKS.due("shadowRows", x.shadowRows(), 1);
        CHECKS.due("refused", x.isRefused(39));
        CHECKS.due("rows", x.rows() == 2 && x.row(0) == 2009 && x.row(39) == 1011);
    }

    private static void undoWhenNotCut() {
        CHECKS.by("IllegalStateException if the phase is not CUT: undo");
        TableChanger x = new TableChanger();
        CHECKS.refused("IDLE", Made.STATE, x::undo);
        x.start(SPLIT, 0);
        CHECKS.refused("COPYING, mark 0", Made.STATE, x::undo);
        CHECKS.due("the mark is as it was", x.mark(), 0);
        x.giveUp();
        Made.copied(x, SPLIT, 0);
        CHECKS.refused("COPYING, mark 40", Made.STATE, x::undo);
        x.cutOver(0);
        x.undo();
        CHECKS.refused("undone", Made.STATE, x::undo);
        x.cutOver(0);
        x.finish();
        CHECKS.refused("finished", Made.STATE, x::undo);
    }

    // ---- finish

    private static void finishOfAnEmptyTable() {
        CHECKS.by("Returns how many rows of the old table are gone: an empty table");
        TableChanger x = Made.cut(new TableChanger(), NARROW, 0);
        CHECKS.due("finish", x.finish(), 0);
        CHECKS.due("rows", x.rows(), 0);
        CHECKS.due("phase", x.phase(), TableChanger.IDLE);
    }

    private static void finishOfAFullTable() {
        CHECKS.by("Returns how many rows of the old table are gone: none of a full table");
        TableChanger x = Made.cut(Made.full(999, 999), NARROW, 999);
        CHECKS.due("finish", x.finish(), 0);
        CHECKS.due("rows", x.rows(), 40);
        CHECKS.due("as they were", x.row(0) == 999999 && x.row(39) == 999999);
        CHECKS.due("no shadow any more", x.shadowRows() == 0 && x.shadow(0, 0) == NONE);
    }

    private static void finishWithNoRowThatFits() {
        CHECKS.by("all rows of the old table whose keys are not in the shadow are gone: all rows");
        TableChanger x = Made.cut(Made.full(0, 1), NARROW, 0);
        CHECKS.due("none is seen before", x.rows(), 0);
        CHECKS.due("finish", x.finish(), 40);
        CHECKS.due("none is left", x.rows(), 0);
        x.insert(0, 1, 1);
        CHECKS.due("its key is free", x.row(0), 1001);
    }

    private static void finishAtTheFirstAndTheLastKey() {
        CHECKS.by("all rows of the old table whose keys are not in the shadow are gone: the first "
                + "and the last one");
        TableChanger x = Made.cut(Made.table(0, 1, 11, 1, 1, 10, 38, 1, 0, 39, 1, 999), NARROW, 10);
        CHECKS.due("finish", x.finish(), 2);
        CHECKS.due("gone", x.row(0) == NONE && x.row(39) == NONE);
        CHECKS.due("left", x.row(1) == 1010 && x.row(38) == 1000 && x.rows() == 2);
        CHECKS.due("no shadow any more", x.shadowRows(), 0);
        CHECKS.dueNoShadow(x, 1);
        CHECKS.dueSums(x, 0, 0, 0);
    }

    private static void finishWhenNotCut() {
        CHECKS.by("IllegalStateException if the phase is not CUT: finish");
        TableChanger x = Made.table(0, 1, 1);
        CHECKS.refused("IDLE", Made.STATE, x::finish);
        Made.copied(x, NARROW, 0);
        CHECKS.refused("COPYING", Made.STATE, x::finish);
        x.cutOver(0);
        x.undo();
        CHECKS.refused("undone", Made.STATE, x::finish);
        CHECKS.due("no row is gone", x.row(0), 1001);
        x.cutOver(0);
        x.finish();
        CHECKS.refused("finished", Made.STATE, x::finish);
    }

    // ---- giveUp

    private static void giveUpAtTheMarkZero() {
        CHECKS.by("Returns how many rows the shadow had: none");
        TableChanger x = Made.full(1, 1);
        x.start(SPLIT, 0);
        CHECKS.due("giveUp", x.giveUp(), 0);
        CHECKS.due("the old table as it is", x.rows(), 40);
        TableChanger empty = Made.copied(new TableChanger(), SPLIT, 0);
        CHECKS.due("an empty table", empty.giveUp(), 0);
        TableChanger refused = Made.copied(Made.full(0, 1), NARROW, 0);
        CHECKS.due("no row that fits", refused.giveUp(), 0);
        CHECKS.due("the old table as it is", refused.rows(), 40);
    }

    private static void giveUpOfAFullTable() {
        CHECKS.by("Returns how many rows the shadow had: all");
        TableChanger x = Made.copied(Made.full(999, 999), SCALE, 999);
        CHECKS.due("giveUp", x.giveUp(), 40);
        CHECKS.due("phase", x.phase(), TableChanger.IDLE);
        CHECKS.due("the old table as it is", x.rows() == 40 && x.row(39) == 999999);
        CHECKS.due("without a shadow", x.shadowRows() == 0 && x.shadow(39, 0) == NONE);
        TableChanger first = Made.full(1, 1);
        first.setPace(1, 0);
        first.start(SPLIT, 0);
        first.tick(0);
        CHECKS.due("the first key alone", first.giveUp(), 1);
    }

    private static void giveUpWithNotes() {
        CHECKS.by("To give up is to have the phase IDLE, and the old table as it is: with notes");
        TableChanger x = Made.copied(Made.table(0, 1, 1, 39, 2, 2), SPLIT, 0);
        x.delete(0);
        x.insert(1, 3, 3);
        x.insert(2, 4, 4);
        CHECKS.due("the rows that the shadow had", x.giveUp(), 2);
        CHECKS.due("notes", x.notes(), 0);
        CHECKS.due("the old table as it is", x.rows() == 3 && x.row(1) == 3003);
        x.start(SPLIT, 0);
        CHECKS.due("no notes of the change before", x.notes(), 0);
        x.giveUp();
        TableChanger many = Made.noted(1000);
        CHECKS.due("many notes", many.giveUp(), 1);
        CHECKS.due("notes", many.notes(), 0);
        CHECKS.due("row", many.row(0), 1001);
    }

    private static void giveUpWhenNotCopying() {
        CHECKS.by("IllegalStateException if the phase is not COPYING: giveUp");
        TableChanger x = Made.table(0, 1, 1);
        CHECKS.refused("IDLE", Made.STATE, x::giveUp);
        Made.cut(x, SPLIT, 0);
        CHECKS.refused("CUT", Made.STATE, x::giveUp);
        CHECKS.due("as it was", x.phase() == TableChanger.CUT && x.shadowRows() == 1);
        x.undo();
        CHECKS.due("undone", x.giveUp(), 1);
        CHECKS.refused("given up", Made.STATE, x::giveUp);
    }
}
