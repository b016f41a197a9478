/** Counts the answers that are not due and prints each; a test ends with {@link #end}. */
final class Checks {
    /** A call of the face; its answer as a number, whatever it is for a call without one. */
    interface Call {
        long answer();
    }

    /** A call of the face that answers nothing. */
    interface Deed {
        void happen();
    }

    private final String test;
    private int made;
    private int wrong;

    Checks(String test) {
        this.test = test;
    }

    void due(String what, long got, long want) {
        made++;
        if (got != want) {
            wrong++;
            System.out.println(test + ": " + what + " answered " + got + ", due is " + want);
        }
    }

    void due(String what, String got, String want) {
        made++;
        if (!got.equals(want)) {
            wrong++;
            System.out.println(test + ": " + what + " is\n  " + got + "\n, due is\n  " + want);
        }
    }

    /** The call throws just this exception, and the object is as it was. */
    void refused(TableChanger x, String what, Class<? extends RuntimeException> due, Deed deed) {
        String before = state(x);
        due(what + " throws", thrownBy(deed), due.getName());
        due("the state behind " + what, state(x), before);
    }

    static String thrownBy(Deed deed) {
        try {
            deed.happen();
        } catch (RuntimeException e) {
            return e.getClass().getName();
        }
        return "nothing";
    }

    /** The answers of all questions, in one text. */
    static String state(TableChanger x) {
        StringBuilder text = new StringBuilder();
        text.append("phase ").append(x.phase()).append(" mark ").append(x.mark());
        text.append(" notes ").append(x.notes()).append(" behind ").append(x.behind());
        text.append(" rows ").append(x.rows()).append(" shadowRows ").append(x.shadowRows());
        for (int column = 0; column < 3; column++) {
            text.append(" sum ").append(x.sum(column)).append('/').append(x.sumAtOnce(column));
        }
        for (int key = 0; key < 40; key++) {
            text.append("; ").append(key).append(": ").append(x.row(key));
            text.append(x.isRefused(key) ? " refused" : "");
            for (int column = 0; column < 3; column++) {
                text.append(' ').append(x.shadow(key, column));
            }
        }
        return text.toString();
    }

    /** Ends the program, with exit code 1 if an answer was not due or none was looked at. */
    void end() {
        System.out.println(test + ": " + made + " answers looked at, " + wrong + " not as due");
        if (wrong != 0 || made == 0) {
            System.exit(1);
        }
    }
}
