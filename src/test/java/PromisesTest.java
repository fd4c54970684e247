/** Each promise of the document: ordinary inputs, the edges that it names, and wrong inputs. */
public final class PromisesTest {
    private static final int PARAMETER = 0, SPLAT = 1, COUNT = 2, ADD = 3, MUL = 4, MAX = 5, NEG = 6,
            TURN = 7, DOT = 8, SUM = 9, SPREAD = 10, FLAT = 11, PART = 12;
    private static final int LEAST = Integer.MIN_VALUE, MOST = Integer.MAX_VALUE;
    private static final long NONE = MatrixModule.NONE;
    private static final int REFUSED = MatrixModule.REFUSED, FULL = MatrixModule.FULL,
            SHAPE = MatrixModule.SHAPE, STATE = MatrixModule.STATE, DONE = MatrixModule.DONE;

    private static final Check CHECK = new Check("PromisesTest");

    public static void main(String[] args) {
        newObject();
        sources();
        sourcesRefused();
        operationShapes();
        operationsRefused();
        reshapes();
        parts();
        fullComesLast();
        marks();
        sets();
        cellsOfEveryKind();
        wrapping();
        foldOfEveryKind();
        neutral();
        zero();
        same();
        twice();
        alike();
        firstRuleThatFits();
        placesChange();
        simplifyAndState();
        simplifyingIsUndone();
        refusedChangesNothing();
        liveAndWork();
        cellsComeAndGo();
        valueQuestions();
        valueWithoutOwnStandIn();
        counts();
        CHECK.end();
    }

    private static void due(String call, long got, long want) {
        CHECK.due(call, got, want);
    }

    /** KIND, first and second ARGUMENT, p and q. */
    private static void dueOperation(MatrixModule x, int v, int kind, int a, int b, int p, int q) {
        due("value(" + v + ", 0)", x.value(v, 0), kind);
        due("value(" + v + ", 3)", x.value(v, 3), a);
        due("value(" + v + ", 4)", x.value(v, 4), b);
        due("value(" + v + ", 5)", x.value(v, 5), p);
        due("value(" + v + ", 6)", x.value(v, 6), q);
    }

    private static void dueShape(MatrixModule x, int v, int rows, int columns) {
        due("value(" + v + ", 1)", x.value(v, 1), rows);
        due("value(" + v + ", 2)", x.value(v, 2), columns);
    }

    private static void dueUses(String what, MatrixModule x, int... uses) {
        for (int r = 1; r <= 6; r++) {
            due(what + ": count(" + r + ")", x.count(r), uses[r - 1]);
        }
    }

    private static void dueCells(String what, MatrixModule x, int v, int[][] want) {
        dueShape(x, v, want.length, want[0].length);
        for (int i = 0; i < want.length; i++) {
            for (int j = 0; j < want[i].length; j++) {
                due(what + ": cell(" + v + ", " + i + ", " + j + ")", x.cell(v, i, j), want[i][j]);
            }
        }
    }

    /** PARAMETER 0 holds 1 .. 16 row by row, PARAMETER 1 their negatives times 10. */
    private static MatrixModule withParameters() {
        MatrixModule x = new MatrixModule();
        for (int i = 0; i < 4; i++) {
            for (int j = 0; j < 4; j++) {
                x.set(0, i, j, i * 4 + j + 1);
                x.set(1, i, j, -10 * (i * 4 + j + 1));
            }
        }
        return x;
    }

    private static void newObject() {
        MatrixModule x = new MatrixModule();
        for (int r = 0; r <= 9; r++) {
            due("new: count(" + r + ")", x.count(r), 0);
        }
        due("new: standIn(0)", x.standIn(0), REFUSED);
        due("new: value(0, 0)", x.value(0, 0), REFUSED);
        due("new: mark(0, true)", x.mark(0, true), REFUSED);
        due("new: cell(0, 0, 0)", x.cell(0, 0, 0), NONE);
        due("new: work()", x.work(), 0);
        due("new: cell(0, 0, 0)", x.cell(0, 0, 0), NONE);
        for (int p = 0; p < 4; p++) {
            x.source(PARAMETER, 4, 4, p);
            x.mark(p, true);
        }
        x.work();
        for (int p = 0; p < 4; p++) {
            dueCells("new PARAMETER", x, p, new int[4][4]);
        }
    }

    private static void sources() {
        MatrixModule x = new MatrixModule();
        due("source", x.source(PARAMETER, 1, 4, 3), 0);
        due("source", x.source(SPLAT, 4, 1, LEAST), 1);
        due("source", x.source(SPLAT, 2, 3, MOST), 2);
        due("source", x.source(COUNT, 3, 2, 0), 3);
        due("source", x.source(COUNT, 3, 2, 1), 4);
        due("count(0)", x.count(0), 5);
        dueOperation(x, 0, PARAMETER, -1, -1, 3, 0);
        dueShape(x, 0, 1, 4);
        dueOperation(x, 1, SPLAT, -1, -1, LEAST, 0);
        dueShape(x, 1, 4, 1);
        dueOperation(x, 2, SPLAT, -1, -1, MOST, 0);
        dueOperation(x, 4, COUNT, -1, -1, 1, 0);
        dueShape(x, 4, 3, 2);
    }

    private static void sourcesRefused() {
        MatrixModule x = new MatrixModule();
        int[][] wrong = {
            {-1, 1, 1, 0}, {3, 1, 1, 0}, {12, 1, 1, 0}, {LEAST, 1, 1, 0}, {MOST, 1, 1, 0},
            {0, 0, 1, 0}, {0, 5, 1, 0}, {1, -1, 1, 0}, {1, MOST, 1, 0}, {2, LEAST, 1, 0},
            {0, 1, 0, 0}, {0, 1, 5, 0}, {1, 1, -1, 0}, {1, 1, MOST, 0}, {2, 1, LEAST, 0},
            {0, 1, 1, -1}, {0, 1, 1, 4}, {2, 1, 1, -1}, {2, 1, 1, 2}, {2, 1, 1, MOST}};
        for (int[] w : wrong) {
            due("wrong source", x.source(w[0], w[1], w[2], w[3]), REFUSED);
        }
        due("count(0)", x.count(0), 0);
    }

    private static void operationShapes() {
        MatrixModule x = new MatrixModule();
        x.source(PARAMETER, 2, 3, 0);
        x.source(PARAMETER, 2, 3, 1);
        x.source(PARAMETER, 3, 4, 2);
        x.source(PARAMETER, 3, 2, 3);
        for (int kind = ADD; kind <= MAX; kind++) {
            int v = x.operation(kind, 1, 0, 0);
            due("operation", v, kind + 1);
            dueOperation(x, v, kind, 1, 0, 0, 0);
            dueShape(x, v, 2, 3);
            due("other columns", x.operation(kind, 2, 3, 0), SHAPE);
            due("turned", x.operation(kind, 0, 3, 0), SHAPE);
        }
        due("NEG", x.operation(NEG, 0, 0, 0), 7);
        dueOperation(x, 7, NEG, 0, -1, 0, 0);
        dueShape(x, 7, 2, 3);
        due("TURN", x.operation(TURN, 0, 0, 0), 8);
        dueOperation(x, 8, TURN, 0, -1, 0, 0);
        dueShape(x, 8, 3, 2);
        due("DOT", x.operation(DOT, 0, 2, 0), 9);
        dueOperation(x, 9, DOT, 0, 2, 0, 0);
        dueShape(x, 9, 2, 4);
        due("DOT the other way", x.operation(DOT, 2, 0, 0), SHAPE);
        due("DOT of equal shapes", x.operation(DOT, 0, 1, 0), SHAPE);
        due("SUM over rows", x.operation(SUM, 0, 0, 0), 10);
        dueOperation(x, 10, SUM, 0, -1, 0, 0);
        dueShape(x, 10, 1, 3);
        due("SUM over columns", x.operation(SUM, 0, 0, 1), 11);
        dueOperation(x, 11, SUM, 0, -1, 1, 0);
        dueShape(x, 11, 2, 1);
        due("count(0)", x.count(0), 12);
    }

    private static void operationsRefused() {
        MatrixModule x = new MatrixModule();
        x.source(PARAMETER, 2, 3, 0);
        x.source(PARAMETER, 2, 3, 1);
        x.source(PARAMETER, 4, 4, 1);
        int[][] wrong = {
            {2, 0, 0, 0}, {10, 0, 0, 0}, {-1, 0, 0, 0}, {LEAST, 0, 0, 0}, {MOST, 0, 0, 0},
            {ADD, -1, 0, 0}, {ADD, 3, 0, 0}, {MUL, MOST, 0, 0}, {NEG, 3, 3, 0},
            {ADD, 0, -1, 0}, {ADD, 0, 3, 0}, {DOT, 0, LEAST, 0}, {TURN, 0, 3, 0},
            {NEG, 0, 1, 0}, {TURN, 1, 0, 0}, {SUM, 0, 1, 0}, {NEG, 0, 2, 0},
            {ADD, 0, 1, 1}, {MUL, 0, 1, -1}, {MAX, 0, 1, 2}, {NEG, 0, 0, 1}, {TURN, 0, 0, 1},
            {DOT, 0, 1, 1}, {ADD, 0, 2, 1}, {SUM, 0, 0, 2}, {SUM, 0, 0, -1}, {SUM, 0, 0, MOST}};
        for (int[] w : wrong) {
            due("wrong operation " + w[0], x.operation(w[0], w[1], w[2], w[3]), REFUSED);
        }
        due("count(0)", x.count(0), 3);
    }

    private static void reshapes() {
        MatrixModule x = new MatrixModule();
        x.source(PARAMETER, 1, 3, 0);
        x.source(PARAMETER, 2, 1, 0);
        x.source(PARAMETER, 1, 1, 0);
        x.source(PARAMETER, 4, 1, 0);
        due("SPREAD rows", x.reshape(SPREAD, 0, 4, 3), 4);
        dueOperation(x, 4, SPREAD, 0, -1, 0, 0);
        dueShape(x, 4, 4, 3);
        due("SPREAD columns", x.reshape(SPREAD, 1, 2, 4), 5);
        due("SPREAD both", x.reshape(SPREAD, 2, 4, 4), 6);
        due("SPREAD to the same", x.reshape(SPREAD, 0, 1, 3), 7);
        due("SPREAD other columns", x.reshape(SPREAD, 0, 1, 4), SHAPE);
        due("SPREAD fewer columns", x.reshape(SPREAD, 0, 2, 1), SHAPE);
        due("SPREAD other rows", x.reshape(SPREAD, 1, 4, 1), SHAPE);
        due("SPREAD fewer rows", x.reshape(SPREAD, 1, 1, 1), SHAPE);
        due("FLAT", x.reshape(FLAT, 3, 2, 2), 8);
        dueOperation(x, 8, FLAT, 3, -1, 0, 0);
        dueShape(x, 8, 2, 2);
        due("FLAT to the same", x.reshape(FLAT, 3, 4, 1), 9);
        due("FLAT with more cells", x.reshape(FLAT, 3, 2, 3), SHAPE);
        due("FLAT with fewer cells", x.reshape(FLAT, 3, 3, 1), SHAPE);
        int[][] wrong = {
            {9, 0, 1, 3}, {12, 0, 1, 3}, {LEAST, 0, 1, 3}, {MOST, 0, 1, 3},
            {SPREAD, -1, 1, 3}, {FLAT, 10, 1, 3}, {FLAT, MOST, 1, 3},
            {SPREAD, 0, 0, 3}, {SPREAD, 0, 5, 3}, {SPREAD, 0, LEAST, 3}, {FLAT, 0, 65536, 65536},
            {SPREAD, 1, 2, 0}, {SPREAD, 1, 2, 5}, {SPREAD, 1, 2, MOST}, {FLAT, 0, -1, -3}};
        for (int[] w : wrong) {
            due("wrong reshape", x.reshape(w[0], w[1], w[2], w[3]), REFUSED);
        }
        due("count(0)", x.count(0), 10);
    }

    private static void parts() {
        MatrixModule x = new MatrixModule();
        x.source(PARAMETER, 3, 4, 0);
        due("PART", x.part(0, 1, 2, 2, 2), 1);
        dueOperation(x, 1, PART, 0, -1, 1, 2);
        dueShape(x, 1, 2, 2);
        due("the last cell", x.part(0, 2, 3, 1, 1), 2);
        due("the whole", x.part(0, 0, 0, 3, 4), 3);
        due("a row too many", x.part(0, 2, 0, 2, 1), SHAPE);
        due("a column too many", x.part(0, 0, 2, 1, 3), SHAPE);
        due("a row behind it", x.part(0, 3, 0, 1, 1), SHAPE);
        int[][] wrong = {
            {-1, 0, 0, 1, 1}, {4, 0, 0, 1, 1}, {MOST, 0, 0, 1, 1},
            {0, -1, 0, 1, 1}, {0, 4, 0, 1, 1}, {0, MOST, 0, 1, 1},
            {0, 0, -1, 1, 1}, {0, 0, 4, 1, 1}, {0, 0, MOST, 1, 1},
            {0, 0, 0, 0, 1}, {0, 0, 0, 5, 1}, {0, 1, 0, MOST, 1},
            {0, 0, 0, 1, 0}, {0, 0, 0, 1, 5}, {0, 0, 1, 1, MOST}, {0, 3, 0, 1, 5}};
        for (int[] w : wrong) {
            due("wrong part", x.part(w[0], w[1], w[2], w[3], w[4]), REFUSED);
        }
        due("count(0)", x.count(0), 4);
    }

    private static void fullComesLast() {
        MatrixModule x = new MatrixModule();
        for (int v = 0; v < 28; v++) {
            due("source", x.source(SPLAT, 1, 1 + v % 2, v), v);
        }
        x.mark(27, true);
        x.simplify();
        x.work();
        due("full source", x.source(SPLAT, 1, 1, 0), FULL);
        due("full operation", x.operation(ADD, 0, 2, 0), FULL);
        due("full reshape", x.reshape(SPREAD, 0, 4, 4), FULL);
        due("full part", x.part(0, 0, 0, 1, 1), FULL);
        due("full, wrong source", x.source(PARAMETER, 1, 1, 4), REFUSED);
        due("full, wrong operation", x.operation(ADD, 0, 28, 0), REFUSED);
        due("full, wrong reshape", x.reshape(FLAT, 28, 1, 1), REFUSED);
        due("full, wrong part", x.part(28, 0, 0, 1, 1), REFUSED);
        due("full, no shape", x.operation(ADD, 0, 1, 0), SHAPE);
        due("full, no shape", x.reshape(FLAT, 0, 1, 2), SHAPE);
        due("full, no shape", x.part(0, 1, 0, 1, 1), SHAPE);
        due("count(0)", x.count(0), 28);
        due("still simplified", x.count(9), 1);
        due("still worked", x.cell(27, 0, 1), 27);
    }

    private static void marks() {
        MatrixModule x = new MatrixModule();
        x.source(SPLAT, 1, 1, 5);
        x.operation(NEG, 0, 0, 0);
        due("count(7)", x.count(7), 0);
        due("mark", x.mark(1, true), DONE);
        due("count(7)", x.count(7), 2);
        due("mark again", x.mark(1, true), DONE);
        due("mark off", x.mark(1, false), DONE);
        due("count(7)", x.count(7), 0);
        due("mark off again", x.mark(1, false), DONE);
        due("mark", x.mark(-1, true), REFUSED);
        due("mark", x.mark(2, true), REFUSED);
        due("mark", x.mark(2, false), REFUSED);
        due("mark", x.mark(MOST, true), REFUSED);
        due("mark", x.mark(LEAST, false), REFUSED);
        x.simplify();
        due("mark off, as it was", x.mark(0, false), DONE);
        due("count(9)", x.count(9), 0);
        x.source(SPLAT, 1, 1, 6);
        due("a refused mark leaves none", x.count(7), 0);
    }

    private static void sets() {
        MatrixModule x = new MatrixModule();
        x.source(PARAMETER, 4, 4, 3);
        x.source(PARAMETER, 2, 3, 3);
        x.source(PARAMETER, 4, 4, 2);
        for (int v = 0; v < 3; v++) {
            x.mark(v, true);
        }
        due("set", x.set(3, 0, 0, LEAST), DONE);
        due("set", x.set(3, 3, 3, MOST), DONE);
        due("set", x.set(3, 1, 2, 12), DONE);
        due("set", x.set(3, 2, 1, 21), DONE);
        int[][] wrong = {{-1, 0, 0}, {4, 0, 0}, {MOST, 0, 0}, {0, -1, 0}, {0, 4, 0}, {0, LEAST, 0},
            {0, 0, -1}, {0, 0, 4}, {3, 0, MOST}, {3, 1, -1}, {3, 0, 6}};
        for (int[] w : wrong) {
            due("wrong set", x.set(w[0], w[1], w[2], 77), REFUSED);
        }
        x.work();
        dueCells("set", x, 0, new int[][] {{LEAST, 0, 0, 0}, {0, 0, 12, 0}, {0, 21, 0, 0}, {0, 0, 0, MOST}});
        dueCells("upper left part", x, 1, new int[][] {{LEAST, 0, 0}, {0, 0, 12}});
        dueCells("another PARAMETER", x, 2, new int[4][4]);
        due("set between", x.set(3, 1, 2, 13), DONE);
        due("the cell waits for work", x.cell(0, 1, 2), 12);
        x.work();
        due("worked again", x.cell(0, 1, 2), 13);
        x.simplify();
        due("set, simplified", x.set(3, 1, 2, 14), DONE);
        due("still simplified", x.count(9), 1);
        x.work();
        due("worked again", x.cell(0, 1, 2), 14);
    }

    private static void cellsOfEveryKind() {
        MatrixModule x = withParameters();
        x.source(PARAMETER, 2, 3, 0);
        x.source(PARAMETER, 2, 3, 1);
        x.source(SPLAT, 2, 3, 4);
        x.source(COUNT, 2, 3, 0);
        x.source(COUNT, 2, 3, 1);
        x.operation(ADD, 0, 1, 0);
        x.operation(MUL, 0, 1, 0);
        x.operation(MAX, 0, 2, 0);
        x.operation(NEG, 0, 0, 0);
        x.operation(TURN, 0, 0, 0);
        x.operation(DOT, 0, 9, 0);
        x.operation(DOT, 9, 0, 0);
        x.operation(SUM, 0, 0, 0);
        x.operation(SUM, 0, 0, 1);
        x.reshape(SPREAD, 12, 2, 3);
        x.reshape(SPREAD, 13, 2, 4);
        x.part(0, 1, 1, 1, 1);
        x.reshape(SPREAD, 16, 2, 2);
        x.reshape(FLAT, 0, 3, 2);
        x.part(0, 0, 1, 2, 2);
        x.source(PARAMETER, 4, 4, 0);
        x.part(20, 1, 2, 3, 2);
        x.operation(SUM, 9, 9, 0);
        x.operation(SUM, 9, 9, 1);
        for (int v = 0; v <= 23; v++) {
            x.mark(v, true);
        }
        x.work();
        int[][][] want = {
            {{1, 2, 3}, {5, 6, 7}}, {{-10, -20, -30}, {-50, -60, -70}}, {{4, 4, 4}, {4, 4, 4}},
            {{0, 0, 0}, {1, 1, 1}}, {{0, 1, 2}, {0, 1, 2}}, {{-9, -18, -27}, {-45, -54, -63}},
            {{-10, -40, -90}, {-250, -360, -490}}, {{4, 4, 4}, {5, 6, 7}}, {{-1, -2, -3}, {-5, -6, -7}},
            {{1, 5}, {2, 6}, {3, 7}}, {{14, 38}, {38, 110}}, {{26, 32, 38}, {32, 40, 48}, {38, 48, 58}},
            {{6, 8, 10}}, {{6}, {18}}, {{6, 8, 10}, {6, 8, 10}}, {{6, 6, 6, 6}, {18, 18, 18, 18}},
            {{6}}, {{6, 6}, {6, 6}}, {{1, 2}, {3, 5}, {6, 7}}, {{2, 3}, {6, 7}},
            {{1, 2, 3, 4}, {5, 6, 7, 8}, {9, 10, 11, 12}, {13, 14, 15, 16}}, {{7, 8}, {11, 12}, {15, 16}},
            {{6, 18}}, {{6}, {8}, {10}}};
        for (int v = 0; v <= 23; v++) {
            dueCells("kind " + x.value(v, 0), x, v, want[v]);
        }
        x.simplify();
        x.work();
        for (int v = 0; v <= 23; v++) {
            dueCells("simplified kind " + x.value(v, 0), x, x.standIn(v), want[v]);
        }
    }

    private static void wrapping() {
        MatrixModule x = new MatrixModule();
        x.set(0, 0, 0, MOST);
        x.set(0, 0, 1, LEAST);
        x.source(PARAMETER, 1, 2, 0);
        x.operation(ADD, 0, 0, 0);
        x.operation(MUL, 0, 0, 0);
        x.operation(NEG, 0, 0, 0);
        x.operation(SUM, 1, 1, 1);
        x.operation(TURN, 0, 0, 0);
        x.operation(DOT, 0, 5, 0);
        for (int v = 1; v <= 6; v++) {
            x.mark(v, true);
        }
        x.work();
        dueCells("wrapping ADD", x, 1, new int[][] {{-2, 0}});
        dueCells("wrapping MUL", x, 2, new int[][] {{1, 0}});
        dueCells("wrapping NEG", x, 3, new int[][] {{-MOST, LEAST}});
        dueCells("wrapping SUM", x, 4, new int[][] {{-2}});
        dueCells("wrapping DOT", x, 6, new int[][] {{1}});
    }

    private static void foldOfEveryKind() {
        MatrixModule x = new MatrixModule();
        x.source(SPLAT, 2, 3, 7);
        x.source(SPLAT, 2, 3, -4);
        x.source(SPLAT, 3, 4, 1000000);
        int[] wanted = {3, -28, 7, -7, 7, 21000000, 14, 21, 14, 7, 7};
        x.operation(ADD, 0, 1, 0);
        x.operation(MUL, 0, 1, 0);
        x.operation(MAX, 0, 1, 0);
        x.operation(NEG, 0, 0, 0);
        x.operation(TURN, 0, 0, 0);
        x.operation(DOT, 0, 2, 0);
        x.operation(SUM, 0, 0, 0);
        x.operation(SUM, 0, 0, 1);
        x.reshape(SPREAD, 9, 4, 3);
        x.reshape(FLAT, 0, 3, 2);
        x.part(0, 1, 2, 1, 1);
        for (int v = 3; v <= 13; v++) {
            x.mark(v, true);
        }
        due("simplify", x.simplify(), 12);
        dueUses("fold", x, 11, 0, 0, 0, 0, 2);
        for (int v = 3; v <= 13; v++) {
            dueOperation(x, v, SPLAT, -1, -1, wanted[v - 3], 0);
        }
        due("MAX is like 0", x.standIn(5), 0);
        due("FLAT is like TURN", x.standIn(12), 7);
        dueShape(x, 8, 2, 4);
        dueShape(x, 11, 4, 3);
        due("count(8)", x.count(8), 0);
        x.work();
        dueCells("folded PART", x, 13, new int[][] {{7}});
    }

    private static void neutral() {
        MatrixModule x = new MatrixModule();
        x.source(SPLAT, 2, 3, 0);
        x.source(SPLAT, 2, 3, 1);
        x.source(PARAMETER, 2, 3, 0);
        x.operation(ADD, 0, 2, 0);
        x.operation(ADD, 2, 0, 0);
        x.operation(MUL, 1, 2, 0);
        x.operation(MUL, 2, 1, 0);
        x.reshape(SPREAD, 2, 2, 3);
        x.reshape(FLAT, 2, 2, 3);
        x.part(2, 0, 0, 2, 3);
        x.operation(ADD, 1, 2, 0);
        x.operation(MAX, 0, 2, 0);
        x.source(PARAMETER, 1, 4, 0);
        x.operation(SUM, 12, 12, 0);
        x.source(PARAMETER, 1, 1, 0);
        x.operation(TURN, 14, 14, 0);
        due("simplify", x.simplify(), 9);
        dueUses("neutral", x, 0, 7, 0, 0, 0, 0);
        for (int v = 3; v <= 9; v++) {
            due("standIn(" + v + ")", x.standIn(v), 2);
        }
        for (int v = 10; v <= 15; v++) {
            due("standIn(" + v + ")", x.standIn(v), v);
        }
    }

    private static void zero() {
        MatrixModule x = new MatrixModule();
        x.source(PARAMETER, 2, 2, 0);
        x.source(SPLAT, 1, 1, 0);
        x.reshape(SPREAD, 1, 2, 2);
        x.operation(MUL, 0, 2, 0);
        x.source(SPLAT, 2, 2, 0);
        x.operation(MUL, 4, 0, 0);
        x.source(COUNT, 1, 1, 0);
        x.operation(MUL, 6, 1, 0);
        x.operation(ADD, 0, 3, 0);
        due("simplify", x.simplify(), 4);
        dueUses("zero", x, 1, 1, 3, 0, 0, 4);
        due("standIn(3)", x.standIn(3), 2);
        dueOperation(x, 3, SPLAT, -1, -1, 0, 0);
        due("standIn(5)", x.standIn(5), 2);
        due("standIn(7)", x.standIn(7), 1);
        due("standIn(8)", x.standIn(8), 0);

        MatrixModule y = new MatrixModule();
        y.source(COUNT, 3, 2, 0);
        y.source(SPLAT, 2, 3, 0);
        y.source(PARAMETER, 2, 3, 1);
        y.operation(MUL, 2, 1, 0);
        y.mark(3, true);
        y.simplify();
        dueUses("zero", y, 0, 0, 1, 0, 0, 1);
    }

    private static void same() {
        MatrixModule x = new MatrixModule();
        x.source(PARAMETER, 2, 2, 0);
        x.source(PARAMETER, 2, 2, 0);
        x.operation(MAX, 0, 0, 0);
        x.operation(MAX, 1, 0, 0);
        x.operation(MUL, 0, 0, 0);
        x.operation(ADD, 0, 0, 0);
        x.source(SPLAT, 2, 2, 3);
        x.operation(MAX, 6, 6, 0);
        due("simplify", x.simplify(), 4);
        dueUses("same", x, 1, 0, 0, 2, 0, 2);
        due("standIn(2)", x.standIn(2), 0);
        due("standIn(3)", x.standIn(3), 0);
        dueOperation(x, 3, MAX, 0, 0, 0, 0);
        due("standIn(7)", x.standIn(7), 6);
        dueOperation(x, 7, SPLAT, -1, -1, 3, 0);
    }

    private static void twice() {
        MatrixModule x = new MatrixModule();
        x.source(PARAMETER, 2, 4, 0);
        x.operation(NEG, 0, 0, 0);
        x.operation(NEG, 1, 1, 0);
        x.operation(NEG, 2, 2, 0);
        x.operation(TURN, 0, 0, 0);
        x.operation(TURN, 4, 4, 0);
        x.operation(TURN, 1, 1, 0);
        x.reshape(FLAT, 0, 4, 2);
        x.reshape(FLAT, 7, 2, 4);
        x.source(PARAMETER, 4, 1, 1);
        x.reshape(FLAT, 9, 2, 2);
        x.reshape(FLAT, 10, 1, 4);
        x.reshape(FLAT, 9, 1, 4);
        x.reshape(FLAT, 12, 2, 2);
        x.mark(11, true);
        x.mark(13, true);
        due("simplify", x.simplify(), 8);
        dueUses("twice", x, 0, 0, 0, 0, 5, 3);
        int[] standIns = {0, 1, 0, 1, 4, 0, 6, 7, 0, 9, 10, 11, 11, 10};
        for (int v = 0; v < standIns.length; v++) {
            due("standIn(" + v + ")", x.standIn(v), standIns[v]);
        }
        dueOperation(x, 2, NEG, 1, -1, 0, 0);
        dueOperation(x, 3, NEG, 0, -1, 0, 0);
        dueOperation(x, 5, TURN, 4, -1, 0, 0);
        dueOperation(x, 8, FLAT, 7, -1, 0, 0);
        dueOperation(x, 11, FLAT, 9, -1, 0, 0);
        dueOperation(x, 13, FLAT, 9, -1, 0, 0);
        due("count(7)", x.count(7), 3);
        due("count(8)", x.count(8), 8);
    }

    private static void alike() {
        MatrixModule x = new MatrixModule();
        x.source(PARAMETER, 2, 3, 0);
        x.source(PARAMETER, 2, 3, 1);
        x.source(PARAMETER, 3, 2, 0);
        x.source(PARAMETER, 2, 3, 1);
        x.source(COUNT, 2, 3, 0);
        x.source(COUNT, 2, 3, 1);
        x.source(COUNT, 2, 3, 0);
        x.source(SPLAT, 2, 3, 0);
        x.source(SPLAT, 3, 3, 0);
        x.source(SPLAT, 2, 3, 0);
        x.operation(SUM, 0, 0, 0);
        x.operation(SUM, 0, 0, 1);
        x.operation(SUM, 0, 0, 1);
        x.part(0, 0, 1, 1, 1);
        x.part(0, 1, 0, 1, 1);
        x.part(0, 1, 1, 1, 1);
        x.part(0, 1, 0, 1, 1);
        x.part(0, 1, 0, 1, 2);
        x.operation(ADD, 0, 1, 0);
        x.operation(MUL, 0, 1, 0);
        x.operation(ADD, 3, 0, 0);
        x.operation(DOT, 0, 8, 0);
        x.operation(DOT, 0, 8, 0);
        x.operation(DOT, 1, 8, 0);
        int[] standIns = {0, 1, 2, 1, 4, 5, 4, 7, 8, 7, 10, 11, 11, 13, 14, 15, 14, 17, 18, 19, 18, 21, 21, 23};
        due("simplify", x.simplify(), 17);
        for (int v = 0; v < standIns.length; v++) {
            due("alike: standIn(" + v + ")", x.standIn(v), standIns[v]);
        }
        dueUses("alike", x, 0, 0, 0, 0, 0, 7);
    }

    private static void firstRuleThatFits() {
        MatrixModule x = new MatrixModule();
        x.source(SPLAT, 1, 2, 0);
        x.source(SPLAT, 1, 2, 1);
        x.operation(ADD, 0, 1, 0);
        x.operation(MUL, 0, 1, 0);
        x.reshape(SPREAD, 1, 1, 2);
        x.simplify();
        dueUses("FOLD before NEUTRAL and ZERO", x, 3, 0, 0, 0, 0, 3);

        MatrixModule y = new MatrixModule();
        y.source(PARAMETER, 2, 2, 0);
        y.reshape(FLAT, 0, 1, 4);
        y.reshape(FLAT, 1, 4, 1);
        y.reshape(FLAT, 2, 4, 1);
        y.reshape(FLAT, 1, 4, 1);
        y.simplify();
        dueUses("NEUTRAL before TWICE", y, 0, 1, 0, 0, 2, 1);
        due("standIn(3)", y.standIn(3), 2);
        due("standIn(4)", y.standIn(4), 2);

        MatrixModule z = new MatrixModule();
        z.source(PARAMETER, 2, 2, 0);
        z.operation(NEG, 0, 0, 0);
        z.operation(NEG, 1, 1, 0);
        z.operation(NEG, 1, 1, 0);
        z.operation(MAX, 0, 0, 0);
        z.operation(MAX, 0, 0, 0);
        z.simplify();
        dueUses("SAME and TWICE before ALIKE", z, 0, 0, 0, 2, 2, 0);
    }

    private static void placesChange() {
        MatrixModule x = new MatrixModule();
        x.source(PARAMETER, 2, 2, 0);
        x.source(PARAMETER, 2, 2, 1);
        for (int kind = ADD; kind <= MAX; kind++) {
            x.operation(kind, 1, 0, 0);
        }
        x.operation(DOT, 1, 0, 0);
        x.operation(DOT, 0, 1, 0);
        for (int v = 2; v <= 6; v++) {
            x.mark(v, true);
        }
        dueOperation(x, 2, ADD, 1, 0, 0, 0);
        due("simplify", x.simplify(), 7);
        for (int v = 2; v <= 4; v++) {
            dueOperation(x, v, v + 1, 0, 1, 0, 0);
        }
        dueOperation(x, 5, DOT, 1, 0, 0, 0);
        dueOperation(x, 6, DOT, 0, 1, 0, 0);

        MatrixModule y = new MatrixModule();
        y.source(PARAMETER, 2, 2, 0);
        y.source(PARAMETER, 2, 2, 1);
        y.operation(NEG, 0, 0, 0);
        y.operation(NEG, 2, 2, 0);
        y.operation(ADD, 1, 3, 0);
        y.simplify();
        dueOperation(y, 4, ADD, 0, 1, 0, 0);
    }

    private static void simplifyAndState() {
        MatrixModule x = new MatrixModule();
        due("nothing to simplify", x.simplify(), 0);
        due("count(9)", x.count(9), 1);
        due("again", x.simplify(), STATE);
        x.source(PARAMETER, 1, 1, 0);
        due("count(9)", x.count(9), 0);
        due("one value", x.simplify(), 1);
        due("again", x.simplify(), STATE);
        x.mark(0, true);
        due("count(9)", x.count(9), 0);
        due("after marking", x.simplify(), 1);
        x.set(0, 0, 0, 4);
        x.work();
        due("still simplified", x.simplify(), STATE);
        due("STATE changes nothing", x.cell(0, 0, 0), 4);
    }

    private static void simplifyingIsUndone() {
        int[] ownAfterWay = {5, 4, 5, 5, 4, 4};
        for (int way = 0; way < 6; way++) {
            MatrixModule x = new MatrixModule();
            x.source(SPLAT, 2, 2, 3);
            x.operation(NEG, 0, 0, 0);
            x.source(PARAMETER, 2, 2, 0);
            x.operation(ADD, 2, 1, 0);
            x.operation(ADD, 1, 2, 0);
            x.mark(4, true);
            x.simplify();
            dueOperation(x, 1, SPLAT, -1, -1, -3, 0);
            dueOperation(x, 3, ADD, 1, 2, 0, 0);
            due("standIn(4)", x.standIn(4), 3);
            due("value(4, 7)", x.value(4, 7), 0);
            due("value(3, 7)", x.value(3, 7), 1);
            switch (way) {
                case 0: x.source(SPLAT, 1, 1, 0); break;
                case 1: x.operation(NEG, 0, 0, 0); break;
                case 2: x.reshape(FLAT, 0, 4, 1); break;
                case 3: x.part(0, 1, 1, 1, 1); break;
                case 4: x.mark(4, true); break;
                default: x.mark(0, false); break;
            }
            due("count(9), way " + way, x.count(9), 0);
            dueOperation(x, 1, NEG, 0, -1, 0, 0);
            dueOperation(x, 3, ADD, 2, 1, 0, 0);
            due("standIn(4)", x.standIn(4), 4);
            due("value(4, 7)", x.value(4, 7), 1);
            due("value(3, 7)", x.value(3, 7), 0);
            due("count(7)", x.count(7), 4);
            dueUses("left by way " + way, x, 1, 0, 0, 0, 0, 1);
            due("simplify anew", x.simplify(), ownAfterWay[way]);
        }
    }

    private static void refusedChangesNothing() {
        MatrixModule x = new MatrixModule();
        x.source(SPLAT, 2, 2, 3);
        x.operation(NEG, 0, 0, 0);
        x.mark(1, true);
        x.simplify();
        x.work();
        x.source(3, 1, 1, 0);
        x.operation(ADD, 0, 2, 0);
        x.operation(DOT, 0, 0, 1);
        x.reshape(FLAT, 0, 3, 1);
        x.reshape(SPREAD, 0, 3, 2);
        x.part(0, 1, 1, 2, 2);
        x.part(0, 4, 1, 2, 2);
        x.mark(2, true);
        x.mark(-1, false);
        x.set(0, 4, 4, 4);
        due("refused simplify", x.simplify(), STATE);
        due("count(0)", x.count(0), 2);
        due("count(9)", x.count(9), 1);
        due("count(1)", x.count(1), 1);
        due("cell(1, 1, 1)", x.cell(1, 1, 1), -3);
        due("value(1, 0)", x.value(1, 0), SPLAT);
    }

    private static void liveAndWork() {
        MatrixModule x = new MatrixModule();
        x.source(PARAMETER, 2, 3, 0);
        x.source(PARAMETER, 3, 4, 1);
        x.operation(DOT, 0, 1, 0);
        x.operation(SUM, 2, 2, 0);
        x.operation(SUM, 2, 2, 1);
        x.reshape(SPREAD, 3, 3, 4);
        x.reshape(FLAT, 2, 4, 2);
        x.part(1, 0, 1, 2, 2);
        x.operation(TURN, 0, 0, 0);
        x.operation(NEG, 0, 0, 0);
        x.operation(ADD, 0, 9, 0);
        int[] works = {0, 0, 24, 8, 8, 12, 8, 4, 6, 6, 6};
        int[] needed = {0, 0, 0, 24, 24, 32, 24, 0, 0, 0, 6};
        int[] lives = {1, 1, 3, 4, 4, 5, 4, 2, 2, 2, 3};
        for (int v = 0; v < works.length; v++) {
            x.mark(v, true);
            due("work of " + v, x.work(), works[v] + needed[v]);
            due("count(8) of " + v, x.count(8), works[v] + needed[v]);
            due("count(7) of " + v, x.count(7), lives[v]);
            x.mark(v, false);
        }
        x.mark(5, true);
        for (int v = 0; v < works.length; v++) {
            due("value(" + v + ", 7)", x.value(v, 7), v <= 3 || v == 5 ? 1 : 0);
        }
        x.mark(5, false);
        due("nothing LIVE", x.work(), 0);
    }

    private static void cellsComeAndGo() {
        MatrixModule x = withParameters();
        x.source(PARAMETER, 2, 3, 0);
        x.operation(NEG, 0, 0, 0);
        x.source(COUNT, 2, 2, 1);
        x.operation(NEG, 1, 1, 0);
        x.mark(3, true);
        due("before work", x.cell(0, 0, 0), NONE);
        x.work();
        due("an ARGUMENT", x.cell(0, 1, 2), 7);
        due("an ARGUMENT", x.cell(1, 1, 2), -7);
        due("not LIVE", x.cell(2, 0, 0), NONE);
        int[][] out = {{3, 2, 0}, {3, -1, 0}, {3, 0, 3}, {3, 0, -1}, {3, MOST, 0}, {3, 0, LEAST}, {3, 1, -1},
            {-1, 0, 0}, {4, 0, 0}, {MOST, 0, 0}, {LEAST, 0, 0}};
        for (int[] o : out) {
            due("out of it", x.cell(o[0], o[1], o[2]), NONE);
        }
        x.simplify();
        due("after simplifying", x.cell(3, 1, 2), NONE);
        due("after simplifying", x.cell(0, 1, 2), NONE);
        x.work();
        due("its STAND-IN is LIVE", x.cell(0, 1, 2), 7);
        due("not LIVE now", x.cell(3, 1, 2), NONE);
        due("not LIVE now", x.cell(1, 1, 2), NONE);
        x.mark(2, false);
        due("after marking", x.cell(0, 1, 2), NONE);
        x.work();
        due("worked again", x.cell(3, 1, 2), 7);
        x.source(SPLAT, 1, 1, 1);
        due("after adding a source", x.cell(3, 1, 2), NONE);
        x.work();
        x.operation(NEG, 0, 0, 0);
        due("after adding an operation", x.cell(3, 1, 2), NONE);
        x.work();
        x.reshape(FLAT, 0, 3, 2);
        due("after a reshape", x.cell(3, 1, 2), NONE);
        x.work();
        x.part(0, 0, 0, 1, 1);
        due("after a part", x.cell(3, 1, 2), NONE);
        x.work();
        x.standIn(3);
        x.value(3, 7);
        x.count(8);
        due("after asking", x.cell(3, 1, 2), 7);
    }

    private static void valueQuestions() {
        MatrixModule x = new MatrixModule();
        x.source(SPLAT, 4, 3, REFUSED);
        x.part(0, 3, 1, 1, 2);
        due("value(0, 5)", x.value(0, 5), -1);
        int[] wanted = {PART, 1, 2, 0, -1, 3, 1, 0};
        for (int what = 0; what <= 7; what++) {
            due("value(1, " + what + ")", x.value(1, what), wanted[what]);
        }
        int[] wrong = {-1, 8, LEAST, MOST};
        for (int what : wrong) {
            due("value(1, " + what + ")", x.value(1, what), REFUSED);
        }
        int[] none = {-1, 2, 28, LEAST, MOST};
        for (int v : none) {
            due("value(" + v + ", 0)", x.value(v, 0), REFUSED);
            due("standIn(" + v + ")", x.standIn(v), REFUSED);
        }
        due("standIn(1)", x.standIn(1), 1);
    }

    private static void valueWithoutOwnStandIn() {
        MatrixModule x = new MatrixModule();
        x.source(PARAMETER, 2, 2, 0);
        x.source(SPLAT, 2, 2, 0);
        x.operation(ADD, 1, 0, 0);
        x.operation(ADD, 2, 1, 0);
        x.operation(NEG, 3, 3, 0);
        x.operation(NEG, 0, 0, 0);
        x.part(1, 0, 0, 2, 2);
        x.mark(3, true);
        due("simplify", x.simplify(), 3);
        due("standIn(3)", x.standIn(3), 0);
        dueOperation(x, 2, ADD, 0, 1, 0, 0);
        dueOperation(x, 3, ADD, 0, 1, 0, 0);
        due("standIn(5)", x.standIn(5), 4);
        dueOperation(x, 4, NEG, 0, -1, 0, 0);
        dueOperation(x, 5, NEG, 0, -1, 0, 0);
        due("standIn(6)", x.standIn(6), 1);
        dueOperation(x, 6, SPLAT, -1, -1, 0, 0);
        due("value(3, 7)", x.value(3, 7), 0);
        due("value(0, 7)", x.value(0, 7), 1);
        dueShape(x, 3, 2, 2);
    }

    private static void counts() {
        MatrixModule x = new MatrixModule();
        x.source(SPLAT, 1, 1, 5);
        x.operation(NEG, 0, 0, 0);
        x.source(SPLAT, 1, 1, -5);
        dueUses("before any simplifying", x, 0, 0, 0, 0, 0, 0);
        x.simplify();
        dueUses("simplified", x, 1, 0, 0, 0, 0, 1);
        x.source(PARAMETER, 1, 1, 0);
        x.mark(3, true);
        dueUses("left", x, 1, 0, 0, 0, 0, 1);
        x.operation(MAX, 3, 3, 0);
        x.simplify();
        dueUses("counted anew", x, 1, 0, 0, 1, 0, 1);
        x.simplify();
        dueUses("STATE leaves them", x, 1, 0, 0, 1, 0, 1);
        due("count(0)", x.count(0), 5);
        due("count(7)", x.count(7), 1);
        due("count(8)", x.count(8), 0);
        due("count(9)", x.count(9), 1);
        int[] wrong = {-1, 10, LEAST, MOST};
        for (int r : wrong) {
            due("count(" + r + ")", x.count(r), REFUSED);
        }
    }
}
