/**
 * Calls as numbers: which one, in the order of the face from insert, and three arguments. A
 * question about a key has it in the first, one about a column in the second; what is not used
 * is 0.
 */
final class Calls {
    private static final String[] NAMES = {
        "insert", "update", "delete", "rekey", "start", "setPace", "tick", "cutOver", "undo",
        "finish", "giveUp", "row", "rows", "phase", "mark", "notes", "shadow", "shadowRows",
        "isRefused", "behind", "sum", "sumAtOnce"
    };

    private Calls() {
    }

    static String text(int[] c) {
        return NAMES[c[0]] + " with " + c[1] + ", " + c[2] + ", " + c[3];
    }

    static String text(int[][] calls) {
        StringBuilder text = new StringBuilder();
        for (int[] c : calls) {
            text.append(text.isEmpty() ? "" : "; ").append(text(c));
        }
        return text.toString();
    }

    static String answerOf(TableChanger x, int[] c) {
        try {
            switch (c[0]) {
                case 0: x.insert(c[1], c[2], c[3]); return "done";
                case 1: x.update(c[1], c[2], c[3]); return "done";
                case 2: return "" + x.delete(c[1]);
                case 3: x.rekey(c[1], c[2]); return "done";
                case 4: x.start(c[1], c[2]); return "done";
                case 5: x.setPace(c[1], c[2]); return "done";
                case 6: return "" + x.tick(c[1]);
                case 7: return "" + x.cutOver(c[1]);
                case 8: x.undo(); return "done";
                case 9: return "" + x.finish();
                case 10: return "" + x.giveUp();
                default: return questionOf(x, c);
            }
        } catch (RuntimeException e) {
            return e.getClass().getName();
        }
    }

    private static String questionOf(TableChanger x, int[] c) {
        switch (c[0]) {
            case 11: return "" + x.row(c[1]);
            case 12: return "" + x.rows();
            case 13: return "" + x.phase();
            case 14: return "" + x.mark();
            case 15: return "" + x.notes();
            case 16: return "" + x.shadow(c[1], c[2]);
            case 17: return "" + x.shadowRows();
            case 18: return "" + x.isRefused(c[1]);
            case 19: return "" + x.behind();
            case 20: return "" + x.sum(c[2]);
            default: return "" + x.sumAtOnce(c[2]);
        }
    }

    static String answerOf(Model model, int[] c) {
        try {
            switch (c[0]) {
                case 0: return model.write(c[1], c[2], c[3], true);
                case 1: return model.write(c[1], c[2], c[3], false);
                case 2: return model.delete(c[1]);
                case 3: return model.rekey(c[1], c[2]);
                case 4: return model.start(c[1], c[2]);
                case 5: return model.setPace(c[1], c[2]);
                case 6: return model.tick(c[1]);
                case 7: return model.cutOver(c[1]);
                case 8: return model.undo();
                case 9: return model.finish();
                case 10: return model.giveUp();
                default: return questionOf(model, c);
            }
        } catch (RuntimeException e) {
            return e.getClass().getName();
        }
    }

    private static String questionOf(Model model, int[] c) {
        switch (c[0]) {
            case 11: return "" + model.row(c[1]);
            case 12: return "" + model.seen().size();
            case 13: return "" + model.phase;
            case 14: return "" + model.mark();
            case 15: return "" + model.notes.size();
            case 16: return "" + model.shadow(c[1], c[2]);
            case 17: return "" + model.shadow.size();
            case 18: return "" + model.isRefused(c[1]);
            case 19: return "" + model.behind();
            case 20: return "" + Model.sum(model.shadow, c[2]);
            default: return "" + Model.sum(model.atOnce(), c[2]);
        }
    }
}
