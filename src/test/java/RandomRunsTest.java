/** Runs of 512 calls, the same at every start, each answer compared with the model's. */
public final class RandomRunsTest {
    private static final int RUNS = 6000;
    private static final int CALLS = 512;
    private static final Check CHECK = new Check("RandomRunsTest");
    private static final int[] NUMBERS = {0, 0, 0, 1, 1, 1, 2, 3, -1, -1, 4, 5, 28,
        Integer.MAX_VALUE, Integer.MIN_VALUE};

    private static long state;
    private static MatrixModule program;
    private static Model model;
    /** Few shapes in a run make operations fit more often. */
    private static int widest;

    public static void main(String[] args) {
        for (int run = 1; run <= RUNS && CHECK.allRight(); run++) {
            state = run * 7919L;
            widest = 1 + below(4);
            program = new MatrixModule();
            model = new Model();
            int early = below(2) == 0 ? 40 : CALLS;
            for (int call = 0; call < CALLS && CHECK.allRight(); call++) {
                callOne(run, call < early && below(3) > 0 ? below(5) : below(14));
            }
        }
        CHECK.end();
    }

    private static int below(int bound) {
        state = state * 6364136223846793005L + 1442695040888963407L;
        return (int) ((state >>> 33) % bound);
    }

    private static int number() {
        return NUMBERS[below(NUMBERS.length)];
    }

    private static int inOrOut(int least, int most) {
        return below(40) == 0 ? number() : least + below(most - least + 1);
    }

    private static int side() {
        return below(60) == 0 ? number() : 1 + below(widest);
    }

    private static int anyValue() {
        int there = model.count(0);
        return there == 0 ? inOrOut(-1, 1) : inOrOut(0, there - 1 + (below(30) == 0 ? 1 : 0));
    }

    private static void due(int run, String call, long got, long want) {
        CHECK.due("run " + run + ": " + call, got, want);
    }

    private static void callOne(int run, int which) {
        switch (which) {
            case 0: source(run); break;
            case 1: case 2: operation(run); break;
            case 3: reshape(run); break;
            case 4: part(run); break;
            case 5: mark(run); break;
            case 6: set(run); break;
            case 7: due(run, "simplify", program.simplify(), model.simplify()); break;
            case 8: due(run, "work", program.work(), model.work()); break;
            case 9: case 10: cell(run); break;
            case 11: standIn(run); break;
            case 12: value(run); break;
            default: count(run); break;
        }
    }

    private static void source(int run) {
        int kind = inOrOut(0, 2);
        int rows = side();
        int columns = side();
        int p = kind == 1 ? number() : inOrOut(0, kind == 0 ? 3 : 1);
        due(run, "source(" + kind + ", " + rows + ", " + columns + ", " + p + ")",
                program.source(kind, rows, columns, p), model.source(kind, rows, columns, p));
    }

    private static void operation(int run) {
        int kind = inOrOut(3, 9);
        int a = anyValue();
        int b = (kind == 6 || kind == 7 || kind == 9 || below(8) == 0) && below(40) != 0 ? a : anyValue();
        int p = kind == 9 ? inOrOut(0, 1) : inOrOut(0, 0);
        due(run, "operation(" + kind + ", " + a + ", " + b + ", " + p + ")",
                program.operation(kind, a, b, p), model.operation(kind, a, b, p));
    }

    private static void reshape(int run) {
        int kind = inOrOut(10, 11);
        int a = anyValue();
        int rows = side();
        int columns = below(4) == 0 ? side() : columnsThatMayFit(kind, a, rows);
        due(run, "reshape(" + kind + ", " + a + ", " + rows + ", " + columns + ")",
                program.reshape(kind, a, rows, columns), model.reshape(kind, a, rows, columns));
    }

    private static int columnsThatMayFit(int kind, int a, int rows) {
        if (kind != 11 || rows < 1) {
            return side();
        }
        return model.value(a, 1) * model.value(a, 2) / rows;
    }

    private static void part(int run) {
        int a = anyValue();
        int p = below(2) == 0 ? 0 : inOrOut(0, 3);
        int q = below(2) == 0 ? 0 : inOrOut(0, 3);
        int rows = side();
        int columns = side();
        due(run, "part(" + a + ", " + p + ", " + q + ", " + rows + ", " + columns + ")",
                program.part(a, p, q, rows, columns), model.part(a, p, q, rows, columns));
    }

    private static void mark(int run) {
        int v = anyValue();
        boolean on = below(3) > 0;
        due(run, "mark(" + v + ", " + on + ")", program.mark(v, on), model.mark(v, on));
    }

    private static void set(int run) {
        int p = inOrOut(0, 3);
        int i = inOrOut(0, 3);
        int j = inOrOut(0, 3);
        int value = below(2) == 0 ? number() : below(Integer.MAX_VALUE);
        due(run, "set(" + p + ", " + i + ", " + j + ", " + value + ")",
                program.set(p, i, j, value), model.set(p, i, j, value));
    }

    private static void cell(int run) {
        int v = anyValue();
        int i = inOrOut(0, widest - 1);
        int j = inOrOut(0, widest - 1);
        due(run, "cell(" + v + ", " + i + ", " + j + ")", program.cell(v, i, j), model.cell(v, i, j));
    }

    private static void standIn(int run) {
        int v = anyValue();
        due(run, "standIn(" + v + ")", program.standIn(v), model.standIn(v));
    }

    private static void value(int run) {
        int v = anyValue();
        int what = inOrOut(0, 7);
        due(run, "value(" + v + ", " + what + ")", program.value(v, what), model.value(v, what));
    }

    private static void count(int run) {
        int r = inOrOut(0, 9);
        due(run, "count(" + r + ")", program.count(r), model.count(r));
    }
}
