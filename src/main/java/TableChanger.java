import java.util.Arrays;
import java.util.NoSuchElementException;

/**
 * A changer of tables that are in use: a shadow table is filled chunk by chunk while clients go on
 * writing, until a cut-over makes the shadow the table.
 */
public final class TableChanger {
    /** There is none. */
    public static final int NONE = -1;
    /** Alterations. */
    public static final int SPLIT = 0, NARROW = 1, SCALE = 2;
    /** Phases. */
    public static final int IDLE = 0, COPYING = 1, CUT = 2;

    private static final int KEYS = 40;
    private static final int COLUMNS = 3;
    private static final int GREATEST_VALUE = 999;
    private static final int GREATEST_PARAMETER = 999;
    private static final int GREATEST_CHUNK = 40;
    private static final int GREATEST_LAG_SET = 100;
    private static final int GREATEST_LAG_TOLD = 1000;
    private static final int GREATEST_MOST = 1000;
    private static final int FIRST_CHUNK = 8;
    private static final int FIRST_LAG = 10;
    private static final int A_PLACE = 1000;
    private static final int SPLIT_DIVISOR = 100;
    // An object is used for 512 calls, and a call notes two keys at most.
    private static final int NOTES_KEPT = 1024;

    // Where the old table has no row, its a is NONE.
    private final int[] oldA = new int[KEYS];
    private final int[] oldB = new int[KEYS];
    // By column, then by key: three arrays instead of forty. Where there is no row, all are NONE.
    private final int[][] shadowColumns = new int[COLUMNS][KEYS];
    private final boolean[] refusedKeys = new boolean[KEYS];
    private final int[] notedKeys = new int[NOTES_KEPT];
    private int noteCount;
    private int currentPhase;
    private int currentMark;
    private int currentAlteration;
    private int currentParameter;
    private int chunkSize;
    private int greatestLag;

    /** Makes an empty old table. */
    public TableChanger() {
        Arrays.fill(oldA, NONE);
        for (int[] column : shadowColumns) {
            Arrays.fill(column, NONE);
        }
        currentPhase = IDLE;
        chunkSize = FIRST_CHUNK;
        greatestLag = FIRST_LAG;
    }

    // ---- clients

    /** Inserts a row. */
    public void insert(int key, int a, int b)
            throws IndexOutOfBoundsException, IllegalArgumentException, IllegalStateException {
        if (!isKey(key)) {
            throw new IndexOutOfBoundsException("there is no such key");
        }
        if (!canBeWritten(a, b)) {
            throw new IllegalArgumentException("a or b is out of range, or the row does not fit");
        }
        if (isSeen(key)) {
            throw new IllegalStateException("there is a row with this key");
        }
        putRow(key, a, b);
        followWrite(key);
    }

    /** Changes a row. */
    public void update(int key, int a, int b)
            throws IndexOutOfBoundsException, IllegalArgumentException, NoSuchElementException {
        if (!isKey(key)) {
            throw new IndexOutOfBoundsException("there is no such key");
        }
        if (!canBeWritten(a, b)) {
            throw new IllegalArgumentException("a or b is out of range, or the row does not fit");
        }
        if (!isSeen(key)) {
            throw new NoSuchElementException("there is no row with this key");
        }
        putRow(key, a, b);
        followWrite(key);
    }

    /** Deletes a row; returns 1000 times its a, and its b, together. */
    public int delete(int key) throws IndexOutOfBoundsException, NoSuchElementException {
        if (!isKey(key)) {
            throw new IndexOutOfBoundsException("there is no such key");
        }
        if (!isSeen(key)) {
            throw new NoSuchElementException("there is no row with this key");
        }
        int deleted = rowAsNumber(key);
        removeRow(key);
        followWrite(key);
        return deleted;
    }

    /** Gives a row another key. */
    public void rekey(int key, int to)
            throws IndexOutOfBoundsException, IllegalArgumentException, NoSuchElementException,
            IllegalStateException {
        if (!isKey(key) || !isKey(to)) {
            throw new IndexOutOfBoundsException("there is no such key");
        }
        if (key == to) {
            throw new IllegalArgumentException("both keys are the same");
        }
        if (!isSeen(key)) {
            throw new NoSuchElementException("there is no row with the first key");
        }
        if (isSeen(to)) {
            throw new IllegalStateException("there is a row with the other key");
        }
        putRow(to, oldA[key], oldB[key]);
        removeRow(key);
        followWrite(Math.min(key, to));
        followWrite(Math.max(key, to));
    }

    // ---- the change

    /** Starts a change. */
    public void start(int alteration, int parameter)
            throws IllegalArgumentException, IllegalStateException {
        if (!isWithin(alteration, SPLIT, SCALE) || !isWithin(parameter, 0, GREATEST_PARAMETER)) {
            throw new IllegalArgumentException("alteration or parameter is out of range");
        }
        if (currentPhase != IDLE) {
            throw new IllegalStateException("the phase is not IDLE");
        }
        currentAlteration = alteration;
        currentParameter = parameter;
        currentMark = 0;
        currentPhase = COPYING;
    }

    /** Sets the chunk and the greatest lag. */
    public void setPace(int chunk, int lag) throws IllegalArgumentException {
        if (!isWithin(chunk, 1, GREATEST_CHUNK) || !isWithin(lag, 0, GREATEST_LAG_SET)) {
            throw new IllegalArgumentException("chunk or lag is out of range");
        }
        chunkSize = chunk;
        greatestLag = lag;
    }

    /** Lets a tick pass; returns how many keys are brought in it. */
    public int tick(int lag) throws IllegalArgumentException, IllegalStateException {
        if (!isWithin(lag, 0, GREATEST_LAG_TOLD)) {
            throw new IllegalArgumentException("lag is out of range");
        }
        if (currentPhase != COPYING) {
            throw new IllegalStateException("the phase is not COPYING");
        }
        if (lag > greatestLag) {
            return 0;
        }
        if (currentMark < KEYS) {
            return copyChunk();
        }
        return playNotes(Math.min(chunkSize, noteCount));
    }

    /** Cuts over; returns how many notes were played. */
    public int cutOver(int most) throws IllegalArgumentException, IllegalStateException {
        if (!isWithin(most, 0, GREATEST_MOST)) {
            throw new IllegalArgumentException("most is out of range");
        }
        if (currentPhase != COPYING || currentMark < KEYS || noteCount > most) {
            throw new IllegalStateException("not COPYING, the mark is not 40, or more notes");
        }
        int played = playNotes(noteCount);
        currentPhase = CUT;
        return played;
    }

    /** Undoes a cut-over. */
    public void undo() throws IllegalStateException {
        if (currentPhase != CUT) {
            throw new IllegalStateException("the phase is not CUT");
        }
        // The mark is 40 and there are no notes: a cut-over wants the one and leaves the other.
        currentPhase = COPYING;
    }

    /** Finishes a change; returns how many rows of the old table are gone. */
    public int finish() throws IllegalStateException {
        if (currentPhase != CUT) {
            throw new IllegalStateException("the phase is not CUT");
        }
        int gone = removeRowsWithoutShadow();
        endChange();
        return gone;
    }

    /** Gives a change up; returns how many rows the shadow had. */
    public int giveUp() throws IllegalStateException {
        if (currentPhase != COPYING) {
            throw new IllegalStateException("the phase is not COPYING");
        }
        int had = shadowRows();
        endChange();
        return had;
    }

    // ---- what clients see

    /** Returns 1000 times a, and b, together, of the row that clients see with a key, or NONE. */
    public int row(int key) throws IndexOutOfBoundsException {
        if (!isKey(key)) {
            throw new IndexOutOfBoundsException("there is no such key");
        }
        return isSeen(key) ? rowAsNumber(key) : NONE;
    }

    /** Returns how many rows clients see. */
    public int rows() {
        int count = 0;
        for (int key = 0; key < KEYS; key++) {
            if (isSeen(key)) {
                count++;
            }
        }
        return count;
    }

    // ---- the change as it is

    /** Returns the phase. */
    public int phase() {
        return currentPhase;
    }

    /** Returns the mark; NONE in the phase IDLE. */
    public int mark() {
        return currentPhase == IDLE ? NONE : currentMark;
    }

    /** Returns how many notes there are. */
    public int notes() {
        return noteCount;
    }

    /** Returns a column of the row of the shadow with a key, or NONE. */
    public int shadow(int key, int column) throws IndexOutOfBoundsException {
        if (!isKey(key) || !isColumn(column)) {
            throw new IndexOutOfBoundsException("there is no such key or column");
        }
        return shadowColumns[column][key];
    }

    /** Returns how many rows the shadow has. */
    public int shadowRows() {
        int count = 0;
        for (int key = 0; key < KEYS; key++) {
            if (isInShadow(key)) {
                count++;
            }
        }
        return count;
    }

    /** Returns whether a key is refused. */
    public boolean isRefused(int key) throws IndexOutOfBoundsException {
        if (!isKey(key)) {
            throw new IndexOutOfBoundsException("there is no such key");
        }
        return refusedKeys[key];
    }

    /** Returns how many keys are behind; 0 in the phase IDLE. */
    public int behind() {
        if (currentPhase == IDLE) {
            return 0;
        }
        int count = 0;
        for (int key = 0; key < KEYS; key++) {
            if (isBehind(key)) {
                count++;
            }
        }
        return count;
    }

    /** Returns the sum of a column over all rows of the shadow. */
    public int sum(int column) throws IndexOutOfBoundsException {
        if (!isColumn(column)) {
            throw new IndexOutOfBoundsException("there is no such column");
        }
        int total = 0;
        for (int key = 0; key < KEYS; key++) {
            if (isInShadow(key)) {
                total += shadowColumns[column][key];
            }
        }
        return total;
    }

    /** Returns the sum that a column would have if all rows were brought now; 0 when IDLE. */
    public int sumAtOnce(int column) throws IndexOutOfBoundsException {
        if (!isColumn(column)) {
            throw new IndexOutOfBoundsException("there is no such column");
        }
        if (currentPhase == IDLE) {
            return 0;
        }
        int total = 0;
        for (int key = 0; key < KEYS; key++) {
            int value = broughtColumn(key, column);
            if (value != NONE) {
                total += value;
            }
        }
        return total;
    }

    // ---- ranges

    private static boolean isWithin(int value, int least, int greatest) {
        return value >= least && value <= greatest;
    }

    private static boolean isKey(int key) {
        return isWithin(key, 0, KEYS - 1);
    }

    private static boolean isColumn(int column) {
        return isWithin(column, 0, COLUMNS - 1);
    }

    private boolean canBeWritten(int a, int b) {
        return isWithin(a, 0, GREATEST_VALUE) && isWithin(b, 0, GREATEST_VALUE)
                && (currentPhase != CUT || fits(b));
    }

    // ---- the tables; each key and column given here is one that there is

    private boolean isInOld(int key) {
        return oldA[key] != NONE;
    }

    private boolean isInShadow(int key) {
        return shadowColumns[0][key] != NONE;
    }

    private boolean isSeen(int key) {
        return isInOld(key) && (currentPhase != CUT || isInShadow(key));
    }

    private int rowAsNumber(int key) {
        return A_PLACE * oldA[key] + oldB[key];
    }

    private void putRow(int key, int a, int b) {
        oldA[key] = a;
        oldB[key] = b;
    }

    private void removeRow(int key) {
        putRow(key, NONE, NONE);
    }

    private int removeRowsWithoutShadow() {
        int removed = 0;
        for (int key = 0; key < KEYS; key++) {
            if (isInOld(key) && !isInShadow(key)) {
                removeRow(key);
                removed++;
            }
        }
        return removed;
    }

    // ---- the alteration

    private boolean fits(int b) {
        return currentAlteration != NARROW || b <= currentParameter;
    }

    private int alteredColumn(int a, int b, int column) {
        switch (column) {
            case 0:
                return currentAlteration == SPLIT ? a / SPLIT_DIVISOR : a;
            case 1:
                return alteredMiddle(a, b);
            default:
                return alteredLast(b);
        }
    }

    private int alteredMiddle(int a, int b) {
        switch (currentAlteration) {
            case SPLIT:
                return a % SPLIT_DIVISOR;
            case NARROW:
                return b;
            default:
                return b * currentParameter;
        }
    }

    private int alteredLast(int b) {
        switch (currentAlteration) {
            case SPLIT:
                return b;
            case NARROW:
                return 0;
            default:
                return digits(b);
        }
    }

    private static int digits(int b) {
        if (b < 10) {
            return 1;
        }
        return b < 100 ? 2 : 3;
    }

    /** What the shadow has in a column once the key is brought. */
    private int broughtColumn(int key, int column) {
        if (!isInOld(key) || !fits(oldB[key])) {
            return NONE;
        }
        return alteredColumn(oldA[key], oldB[key], column);
    }

    // ---- copying

    private void bring(int key) {
        for (int column = 0; column < COLUMNS; column++) {
            shadowColumns[column][key] = broughtColumn(key, column);
        }
        refusedKeys[key] = isInOld(key) && !fits(oldB[key]);
    }

    // What counts is what the shadow has: two old rows may be altered to the same one.
    private boolean isBehind(int key) {
        for (int column = 0; column < COLUMNS; column++) {
            if (shadowColumns[column][key] != broughtColumn(key, column)) {
                return true;
            }
        }
        return false;
    }

    private void followWrite(int key) {
        if (currentPhase == COPYING) {
            noteKey(key);
        } else if (currentPhase == CUT) {
            bring(key);
        }
    }

    // Full only after more calls than an object is used for: nothing is promised then.
    private void noteKey(int key) {
        if (noteCount < NOTES_KEPT) {
            notedKeys[noteCount] = key;
            noteCount++;
        }
    }

    private int copyChunk() {
        int end = Math.min(currentMark + chunkSize, KEYS);
        int brought = end - currentMark;
        for (int key = currentMark; key < end; key++) {
            bring(key);
        }
        currentMark = end;
        return brought;
    }

    /** Plays the first notes, which are gone then; there are as many. */
    private int playNotes(int count) {
        for (int note = 0; note < count; note++) {
            bring(notedKeys[note]);
        }
        noteCount -= count;
        System.arraycopy(notedKeys, count, notedKeys, 0, noteCount);
        return count;
    }

    private void endChange() {
        for (int[] column : shadowColumns) {
            Arrays.fill(column, NONE);
        }
        for (int key = 0; key < KEYS; key++) {
            refusedKeys[key] = false;
        }
        noteCount = 0;
        currentPhase = IDLE;
    }
}
