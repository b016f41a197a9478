/** Objects that the tests begin with. */
final class Made {
    static final Class<IndexOutOfBoundsException> INDEX = IndexOutOfBoundsException.class;
    static final Class<IllegalArgumentException> ARGUMENT = IllegalArgumentException.class;
    static final Class<IllegalStateException> STATE = IllegalStateException.class;
    static final Class<java.util.NoSuchElementException> ELEMENT =
            java.util.NoSuchElementException.class;

    private Made() {
    }

    /** A table with these rows, each as key, a and b. */
    static TableChanger table(int... rows) {
        TableChanger x = new TableChanger();
        for (int i = 0; i + 2 < rows.length; i += 3) {
            x.insert(rows[i], rows[i + 1], rows[i + 2]);
        }
        return x;
    }

    /** A table with a row of every key, all with this a and b. */
    static TableChanger full(int a, int b) {
        TableChanger x = new TableChanger();
        for (int key = 0; key < 40; key++) {
            x.insert(key, a, b);
        }
        return x;
    }

    /** The table in the phase COPYING, with the mark 40, no notes, the chunk 40 and the lag 10. */
    static TableChanger copied(TableChanger x, int alteration, int parameter) {
        x.setPace(40, 10);
        x.start(alteration, parameter);
        x.tick(0);
        return x;
    }

    /** The same, cut over. */
    static TableChanger cut(TableChanger x, int alteration, int parameter) {
        copied(x, alteration, parameter).cutOver(0);
        return x;
    }

    /** A table with one row, COPYING with the mark 40, and as many notes, 1001 at most. */
    static TableChanger noted(int notes) {
        TableChanger x = copied(table(0, 1, 1), TableChanger.SPLIT, 0);
        for (int i = 0; i < notes / 2; i++) {
            x.rekey(i % 2, 1 - i % 2);
        }
        if (notes % 2 == 1) {
            x.update(notes / 2 % 2, 2, 2);
        }
        return x;
    }
}
