/** The boundary cases of "Promise 4: reshape". */
public final class Promise04ReshapeTest extends Boundaries {
    public static void main(String[] args) {
        new Promise04ReshapeTest().run();
    }

    @Override
    void testAll() {
        kinds();
        values();
        shapes();
        spreads();
        spreadsThatDontFit();
        flats();
        flatsThatDontFit();
        full();
        itsNumber();
        argumentsFirst();
    }

    private void kinds() {
        sentence("Promise 4", "Adds a SPREAD (kind 10) or FLAT (11)");
        Traced taken = freshWith(2, 2);
        taken.reshape(SPREAD, 0, 2, 2).is(1);
        operationIs(taken, 1, SPREAD, 0, -1, 0, 0);
        taken.reshape(FLAT, 0, 2, 2).is(2);
        operationIs(taken, 2, FLAT, 0, -1, 0, 0);
        for (int kind : new int[] {9, 12, 3, 0, -1, LEAST, MOST}) {
            freshWith(2, 3).reshape(kind, 0, 2, 3).is(REFUSED);
            refusedEverywhere(x -> x.reshape(kind, 0, 2, 3));
        }
    }

    private void values() {
        sentence("Promise 4", "of the value a");
        for (int kind = SPREAD; kind <= FLAT; kind++) {
            int k = kind;
            Traced x = freshWithSplats(3);
            x.reshape(kind, 0, 1, 1).is(3);
            x.value(3, 3).is(0);
            x.reshape(kind, 3, 1, 1).is(4);
            x.value(4, 3).is(3);
            x.reshape(kind, 5, 1, 1).is(REFUSED);
            for (int a : new int[] {-1, MOST_VALUES, LEAST, MOST}) {
                refusedEverywhere(y -> y.reshape(k, a, 1, 1));
            }
            refusedEverywhere(y -> y.reshape(k, y.values(), 1, 1));
        }
    }

    private void shapes() {
        sentence("Promise 4", "to the SHAPE");
        for (int kind = SPREAD; kind <= FLAT; kind++) {
            int k = kind;
            Traced x = freshWith(1, 1);
            x.source(PARAMETER, 4, 4, 0).is(1);
            x.reshape(kind, 0, 1, 1).is(2);
            x.reshape(kind, 1, 4, 4).is(3);
            shapeIs(x, 2, 1, 1);
            shapeIs(x, 3, 4, 4);
            for (int out : OUT_OF_1_TO_4) {
                refusedEverywhere(y -> y.reshape(k, 0, out, 3));
                refusedEverywhere(y -> y.reshape(k, 0, 2, out));
            }
        }
        // each has as many cells as the value, but for the range
        refusedEverywhere(x -> x.reshape(FLAT, 0, 1, 6));
        refusedEverywhere(x -> x.reshape(FLAT, 0, 6, 1));
        refusedEverywhere(x -> x.reshape(FLAT, 0, -2, -3));
        freshWith(4, 2).reshape(FLAT, 0, 1, 8).is(REFUSED);
        freshWith(4, 2).reshape(FLAT, 0, 8, 1).is(REFUSED);
        freshWith(1, 1).reshape(SPREAD, 0, 5, 5).is(REFUSED);
    }

    private void spreads() {
        sentence("Terms", "10 SPREAD of a to any SHAPE: a's rows are 1 or as many, its columns too");
        int[][] fits = {
            {1, 1, 1, 1}, {1, 1, 1, 4}, {1, 1, 4, 1}, {1, 1, 4, 4}, {1, 1, 2, 3},
            {1, 4, 1, 4}, {1, 4, 4, 4}, {1, 3, 2, 3}, {4, 1, 4, 1}, {4, 1, 4, 4}, {2, 1, 2, 2},
            {2, 3, 2, 3}, {4, 4, 4, 4}};
        for (int[] f : fits) {
            Traced x = freshWith(f[0], f[1]);
            x.reshape(SPREAD, 0, f[2], f[3]).is(1);
            shapeIs(x, 1, f[2], f[3]);
        }
    }

    private void spreadsThatDontFit() {
        sentence("Promise 4", "it doesn't fit: SHAPE");
        int[][] wrong = {
            {1, 2, 1, 1}, {1, 2, 1, 3}, {1, 3, 4, 4}, {1, 4, 4, 3}, {2, 1, 1, 1}, {2, 1, 3, 1},
            {3, 1, 4, 4}, {4, 1, 3, 4}, {2, 2, 2, 4}, {2, 2, 4, 2}, {2, 2, 4, 4}, {2, 3, 3, 2}, {4, 4, 1, 1}};
        for (int[] w : wrong) {
            Traced x = freshWith(w[0], w[1]);
            x.reshape(SPREAD, 0, w[2], w[3]).is(SHAPE);
            x.count(0).is(1);
        }
        for (int from = 0; from < 16; from++) {
            for (int to = 0; to < 16; to++) {
                boolean rows = from / 4 == 0 || from / 4 == to / 4;
                boolean columns = from % 4 == 0 || from % 4 == to % 4;
                Traced x = freshWith(1 + from / 4, 1 + from % 4);
                x.reshape(SPREAD, 0, 1 + to / 4, 1 + to % 4).is(rows && columns ? 1 : SHAPE);
            }
        }
        noShapeWithValues(x -> x.reshape(SPREAD, 0, 2, 4));
        noShapeWithValues(x -> x.reshape(SPREAD, 0, 3, 3));
        noShapeWithValues(x -> x.reshape(SPREAD, 0, 1, 3));
        noShapeWithValues(x -> x.reshape(SPREAD, 0, 2, 1));
    }

    private void flats() {
        sentence("Terms", "11 FLAT of a to any SHAPE with as many cells");
        int[][] fits = {
            {1, 1, 1, 1}, {1, 2, 2, 1}, {1, 3, 3, 1}, {1, 4, 4, 1}, {4, 1, 2, 2}, {2, 2, 1, 4},
            {2, 3, 3, 2}, {2, 4, 4, 2}, {3, 4, 4, 3}, {4, 4, 4, 4}};
        for (int[] f : fits) {
            Traced x = freshWith(f[0], f[1]);
            x.reshape(FLAT, 0, f[2], f[3]).is(1);
            shapeIs(x, 1, f[2], f[3]);
        }
    }

    private void flatsThatDontFit() {
        sentence("Promise 4", "it doesn't fit: SHAPE");
        for (int from = 0; from < 16; from++) {
            for (int to = 0; to < 16; to++) {
                int cells = (1 + from / 4) * (1 + from % 4);
                int wanted = (1 + to / 4) * (1 + to % 4);
                Traced x = freshWith(1 + from / 4, 1 + from % 4);
                x.reshape(FLAT, 0, 1 + to / 4, 1 + to % 4).is(cells == wanted ? 1 : SHAPE);
                x.count(0).is(cells == wanted ? 2 : 1);
            }
        }
        noShapeWithValues(x -> x.reshape(FLAT, 0, 2, 2));
        noShapeWithValues(x -> x.reshape(FLAT, 0, 2, 4));
        noShapeWithValues(x -> x.reshape(FLAT, 0, 1, 1));
        noShapeWithValues(x -> x.reshape(FLAT, 0, 4, 4));
    }

    private void full() {
        sentence("Promise 4", "28 values: FULL.");
        for (int kind = SPREAD; kind <= FLAT; kind++) {
            int k = kind;
            Traced x = freshWithSplats(MOST_VALUES - 1);
            x.reshape(kind, 26, 1, 1).is(MOST_VALUES - 1);
            x.reshape(kind, 26, 1, 1).is(FULL);
            x.reshape(kind, 27, 1, 1).is(FULL);
            x.count(0).is(MOST_VALUES);
            fullWithAllValues(y -> y.reshape(k, 0, 2, 3));
            fullWithAllValues(y -> y.reshape(k, 27, 1, 1));
        }
    }

    private void itsNumber() {
        sentence("Promise 4", "Answers its number.");
        Traced x = freshWith(1, 4);
        x.reshape(SPREAD, 0, 1, 3).is(SHAPE);
        x.reshape(FLAT, 0, 0, 4).is(REFUSED);
        x.reshape(FLAT, 0, 2, 2).is(1);
        x.simplify().is(2);
        x.reshape(SPREAD, 0, 4, 4).is(2);
        x.count(0).is(3);
    }

    private void argumentsFirst() {
        sentence("Terms", "Every call first tests its arguments in their order, out of range answering REFUSED, "
                + "then what is said");
        refusedEverywhere(x -> x.reshape(SPREAD, 0, 3, 5));
        refusedEverywhere(x -> x.reshape(SPREAD, 0, 5, 4));
        refusedEverywhere(x -> x.reshape(FLAT, 0, 4, 5));
        refusedEverywhere(x -> x.reshape(12, 0, 4, 4));
        refusedEverywhere(x -> x.reshape(FLAT, x.values(), 4, 4));
    }
}
