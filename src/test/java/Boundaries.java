import java.util.List;

/**
 * What the tests of the boundary cases share. Each of their methods is for one sentence of the
 * document, which it names first: the last input that is taken and the first that is refused on
 * each side, the answer of a refused call, and that such a call has changed nothing.
 */
abstract class Boundaries {
    static final int PARAMETER = 0, SPLAT = 1, COUNT = 2, ADD = 3, MUL = 4, MAX = 5, NEG = 6, TURN = 7,
            DOT = 8, SUM = 9, SPREAD = 10, FLAT = 11, PART = 12;
    static final int LEAST = Integer.MIN_VALUE, MOST = Integer.MAX_VALUE;
    static final int MOST_VALUES = 28;
    static final int DONE = MatrixModule.DONE, REFUSED = MatrixModule.REFUSED, FULL = MatrixModule.FULL,
            SHAPE = MatrixModule.SHAPE, STATE = MatrixModule.STATE;
    static final long NONE = MatrixModule.NONE;
    /** Below and above 0 .. 3, the nearest first. */
    static final int[] OUT_OF_0_TO_3 = {-1, 4, 5, LEAST, MOST};
    /** Below and above 1 .. 4, the nearest first. */
    static final int[] OUT_OF_1_TO_4 = {0, 5, -1, LEAST, MOST};

    private final Check check = new Check(getClass().getName());

    abstract void testAll();

    final void run() {
        testAll();
        check.end();
    }

    final void sentence(String place, String words) {
        check.sentence(place, words);
    }

    /** For what no single call answers. */
    final void due(String what, long got, long want) {
        check.due(what, got, want);
    }

    final Traced fresh() {
        return new Traced(check);
    }

    /** A new object with one PARAMETER 0 of the shape. */
    final Traced freshWith(int rows, int columns) {
        Traced x = fresh();
        x.source(PARAMETER, rows, columns, 0).is(0);
        return x;
    }

    /** A new object with as many values, all of them SPLATS of 1 row and column that differ. */
    final Traced freshWithSplats(int values) {
        Traced x = fresh();
        for (int v = 0; v < values; v++) {
            x.source(SPLAT, 1, 1, v).is(v);
        }
        return x;
    }

    /** The call answers REFUSED with and without values, and changes nothing. */
    final void refusedEverywhere(Unchanged.Call call) {
        Unchanged.by(check, Unchanged.WITHOUT_VALUES, call, REFUSED);
        Unchanged.by(check, Unchanged.WITH_VALUES, call, REFUSED);
        Unchanged.by(check, Unchanged.WITH_ALL_VALUES, call, REFUSED);
    }

    /** The call answers SHAPE, full or not, and changes nothing. */
    final void noShapeWithValues(Unchanged.Call call) {
        Unchanged.by(check, Unchanged.WITH_VALUES, call, SHAPE);
        Unchanged.by(check, Unchanged.WITH_ALL_VALUES, call, SHAPE);
    }

    /** The call answers FULL, and changes nothing. */
    final void fullWithAllValues(Unchanged.Call call) {
        Unchanged.by(check, Unchanged.WITH_ALL_VALUES, call, FULL);
    }

    final void unchanged(List<Unchanged.Steps> states, Unchanged.Call call, long due) {
        Unchanged.by(check, states, call, due);
    }

    final void operationIs(Traced x, int v, int kind, int first, int second, int p, int q) {
        x.value(v, 0).is(kind);
        x.value(v, 3).is(first);
        x.value(v, 4).is(second);
        x.value(v, 5).is(p);
        x.value(v, 6).is(q);
    }

    final void shapeIs(Traced x, int v, int rows, int columns) {
        x.value(v, 1).is(rows);
        x.value(v, 2).is(columns);
    }

    final void standInsAre(Traced x, int... standIns) {
        for (int v = 0; v < standIns.length; v++) {
            x.standIn(v).is(standIns[v]);
        }
    }

    /** How often the rules 1 to 6 were used. */
    final void usesAre(Traced x, int... uses) {
        for (int r = 1; r <= 6; r++) {
            x.count(r).is(uses[r - 1]);
        }
    }

    final void cellsAre(Traced x, int v, int[][] cells) {
        for (int i = 0; i < cells.length; i++) {
            for (int j = 0; j < cells[i].length; j++) {
                x.cell(v, i, j).is(cells[i][j]);
            }
        }
    }
}
