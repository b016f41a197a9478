import java.util.Random;

/**
 * Long runs of calls, the same ones each time, against the plain model of the document: each call
 * answers or throws as the model does. A run makes up to 300 calls, questions among them, and then
 * all questions are asked: 512 calls at most.
 */
public final class ModelTest {
    private static final int RUNS = 6000;
    private static final int MOST_CALLS = 300;

    private ModelTest() {
    }

    public static void main(String[] args) {
        Checks checks = new Checks("ModelTest");
        for (int run = 0; run < RUNS; run++) {
            followRun(checks, run);
        }
        checks.end();
    }

    private static void followRun(Checks checks, int run) {
        Random random = new Random(run);
        TableChanger x = new TableChanger();
        Model model = new Model();
        // Few keys make clients meet, many fill the table; both are needed.
        int keys = run % 3 == 0 ? 40 : 4 + run % 7;
        int eager = run % 5;
        for (int call = 0; call < run % MOST_CALLS; call++) {
            int[] c = random.nextInt(3) == 0 ? nextQuestion(random, keys)
                    : nextCall(random, keys, eager);
            checks.due("run " + run + ", call " + call + ", " + Calls.text(c),
                    Calls.answerOf(x, c), Calls.answerOf(model, c));
        }
        checks.due("run " + run + ": all questions", Checks.state(x), model.state());
    }

    /** A call as a number and three arguments, mostly within their ranges. */
    private static int[] nextCall(Random random, int keys, int eager) {
        int kind = random.nextInt(17 + 3 * eager);
        int b = random.nextInt(4) == 0 ? random.nextInt(1000) : random.nextInt(120);
        switch (kind) {
            case 0: case 1: case 2: case 3:
                return new int[] {0, key(random, keys), value(random), off(random, b)};
            case 4: case 5: case 6:
                return new int[] {1, key(random, keys), value(random), off(random, b)};
            case 7: case 8:
                return new int[] {2, key(random, keys), 0, 0};
            case 9: case 10: case 11:
                return new int[] {3, key(random, keys), key(random, keys), 0};
            case 12:
                return new int[] {4, off(random, random.nextInt(3)), off(random, b), 0};
            case 13:
                return new int[] {5, off(random, 1 + random.nextInt(40)),
                    off(random, random.nextInt(101)), 0};
            case 14:
                return new int[] {8 + random.nextInt(3), 0, 0, 0};
            case 15: case 16:
                return new int[] {7, off(random, random.nextInt(12)), 0, 0};
            default:
                return new int[] {6, off(random, random.nextInt(12)), 0, 0};
        }
    }

    private static int[] nextQuestion(Random random, int keys) {
        return new int[] {11 + random.nextInt(11), key(random, keys), random.nextInt(3), 0};
    }

    private static int off(Random random, int value) {
        int[] wrong = {-1, 3, 41, 101, 1000, 1001, Integer.MIN_VALUE, Integer.MAX_VALUE};
        return random.nextInt(40) == 0 ? wrong[random.nextInt(wrong.length)] : value;
    }

    private static int key(Random random, int keys) {
        return random.nextInt(60) == 0 ? (random.nextBoolean() ? -1 : 40)
                : 40 - keys + random.nextInt(keys);
    }

    private static int value(Random random) {
        return off(random, random.nextInt(1000));
    }
}
