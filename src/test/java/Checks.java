/** Counts the answers that are not due and prints each; a test ends with {@link #end}. */
final class Checks {
    /** A call of the face that answers nothing, or whose answer is not looked at. */
    interface Deed {
        void happen();
    }

    private final String test;
    private String sentence = "";
    private int made;
    private int wrong;

    Checks(String test) {
        this.test = test;
    }

    /** What is looked at from here on is due by this sentence of the document. */
    void by(String sentence) {
        this.sentence = " (" + sentence + ")";
    }

    void due(String what, long got, long want) {
        if (got != want) {
            print(what + " answered " + got + ", due is " + want);
        }
        made++;
    }

    void due(String what, boolean holds) {
        if (!holds) {
            print(what + " does not hold");
        }
        made++;
    }

    void due(String what, String got, String want) {
        if (!got.equals(want)) {
            print(what + " is\n  " + got + "\n, due is\n  " + want);
        }
        made++;
    }

    private void print(String fault) {
        wrong++;
        System.out.println(test + sentence + ": " + fault);
    }

    /** The call throws just this exception; RefusalsTest looks whether all is as it was then. */
    void refused(String what, Class<? extends RuntimeException> exception, Deed deed) {
        due(what + " throws", thrownBy(deed), exception.getName());
    }

    void dueShadow(TableChanger x, int key, int first, int second, int third) {
        due("shadow(" + key + ", 0)", x.shadow(key, 0), first);
        due("shadow(" + key + ", 1)", x.shadow(key, 1), second);
        due("shadow(" + key + ", 2)", x.shadow(key, 2), third);
    }

    void dueNoShadow(TableChanger x, int key) {
        dueShadow(x, key, TableChanger.NONE, TableChanger.NONE, TableChanger.NONE);
    }

    void dueSums(TableChanger x, int first, int second, int third) {
        due("sum(0)", x.sum(0), first);
        due("sum(1)", x.sum(1), second);
        due("sum(2)", x.sum(2), third);
    }

    void dueSumsAtOnce(TableChanger x, int first, int second, int third) {
        due("sumAtOnce(0)", x.sumAtOnce(0), first);
        due("sumAtOnce(1)", x.sumAtOnce(1), second);
        due("sumAtOnce(2)", x.sumAtOnce(2), third);
    }

    static String thrownBy(Deed deed) {
        try {
            deed.happen();
        } catch (RuntimeException e) {
            return e.getClass().getName();
        }
        return "nothing";
    }

    /** The answers of all questions, in one text: 212 of the 512 calls an object is used for. */
    static String state(TableChanger x) {
        StringBuilder text = new StringBuilder();
        text.append("phase ").append(x.phase()).append(" mark ").append(x.mark());
        text.append(" notes ").append(x.notes()).append(" behind ").append(x.behind());
        text.append(" rows ").append(x.rows()).append(" shadowRows ").append(x.shadowRows());
        for (int column = 0; column < 3; column++) {
            text.append(" sum ").append(x.sum(column)).append('/').append(x.sumAtOnce(column));
        }
        for (int key = 0; key < 40; key++) {
            text.append("; ").append(key).append(": ").append(x.row(key));
            text.append(x.isRefused(key) ? " refused" : "");
            for (int column = 0; column < 3; column++) {
                text.append(' ').append(x.shadow(key, column));
            }
        }
        return text.toString();
    }

    /** Ends the program, with exit code 1 if an answer was not due or none was looked at. */
    void end() {
        System.out.println(test + ": " + made + " answers looked at, " + wrong + " not as due");
        if (wrong != 0 || made == 0) {
            System.exit(1);
        }
    }
}
