/** The boundary cases of "Promise 2: source". */
public final class Promise02SourceTest extends Boundaries {
    public static void main(String[] args) {
        new Promise02SourceTest().run();
    }

    @Override
    void testAll() {
        kinds();
        shapes();
        shapesOut();
        numbersOfParameters();
        numbersOfSplats();
        numbersOfCounts();
        full();
        itsNumber();
        argumentsFirst();
    }

    private void kinds() {
        sentence("Promise 2", "Adds a PARAMETER, SPLAT or COUNT (kind 0 .. 2)");
        for (int kind = 0; kind <= 2; kind++) {
            Traced x = fresh();
            x.source(kind, 2, 3, 1).is(0);
            x.count(0).is(1);
            operationIs(x, 0, kind, -1, -1, 1, 0);
        }
        for (int kind : new int[] {-1, 3, 12, 13, LEAST, MOST}) {
            refusedEverywhere(x -> x.source(kind, 2, 2, 0));
        }
    }

    private void shapes() {
        sentence("Terms", "a SHAPE, rows and columns (1 .. 4 each)");
        for (int kind = 0; kind <= 2; kind++) {
            Traced x = fresh();
            for (int rows = 1; rows <= 4; rows++) {
                for (int columns = 1; columns <= 4; columns++) {
                    int v = x.values();
                    x.source(kind, rows, columns, 0).is(v);
                    shapeIs(x, v, rows, columns);
                }
            }
        }
    }

    private void shapesOut() {
        sentence("Promise 2", "of a SHAPE");
        for (int kind = 0; kind <= 2; kind++) {
            int k = kind;
            for (int out : OUT_OF_1_TO_4) {
                refusedEverywhere(x -> x.source(k, out, 1, 0));
                refusedEverywhere(x -> x.source(k, 1, out, 0));
            }
            refusedEverywhere(x -> x.source(k, 0, 5, 0));
        }
    }

    private void numbersOfParameters() {
        sentence("Promise 2", "0 .. 3 for a PARAMETER");
        for (int p = 0; p <= 3; p++) {
            Traced x = fresh();
            x.source(PARAMETER, 1, 1, p).is(0);
            operationIs(x, 0, PARAMETER, -1, -1, p, 0);
        }
        for (int p : OUT_OF_0_TO_3) {
            refusedEverywhere(x -> x.source(PARAMETER, 1, 1, p));
        }
    }

    private void numbersOfSplats() {
        sentence("Promise 2", "any for a SPLAT");
        for (int p : new int[] {LEAST, LEAST + 1, -4, -3, -2, -1, 0, 1, 4, MOST - 1, MOST}) {
            Traced x = fresh();
            x.source(SPLAT, 4, 4, p).is(0);
            operationIs(x, 0, SPLAT, -1, -1, p, 0);
            x.mark(0, true).is(DONE);
            x.work().is(0);
            x.cell(0, 0, 0).is(p);
            x.cell(0, 3, 3).is(p);
        }
    }

    private void numbersOfCounts() {
        sentence("Promise 2", "0 or 1 for a COUNT");
        for (int p = 0; p <= 1; p++) {
            Traced x = fresh();
            x.source(COUNT, 1, 1, p).is(0);
            operationIs(x, 0, COUNT, -1, -1, p, 0);
        }
        for (int p : new int[] {-1, 2, 3, LEAST, MOST}) {
            refusedEverywhere(x -> x.source(COUNT, 1, 1, p));
        }
    }

    private void full() {
        sentence("Promise 2", "28 values: FULL.");
        for (int kind = 0; kind <= 2; kind++) {
            int k = kind;
            Traced x = freshWithSplats(MOST_VALUES - 1);
            x.source(kind, 4, 4, 1).is(MOST_VALUES - 1);
            x.source(kind, 4, 4, 1).is(FULL);
            x.source(kind, 1, 1, 0).is(FULL);
            x.count(0).is(MOST_VALUES);
            operationIs(x, MOST_VALUES - 1, kind, -1, -1, 1, 0);
            shapeIs(x, MOST_VALUES - 1, 4, 4);
            x.value(MOST_VALUES, 0).is(REFUSED);
            fullWithAllValues(y -> y.source(k, 1, 1, 0));
        }
    }

    private void itsNumber() {
        sentence("Promise 2", "Answers its number.");
        Traced x = fresh();
        x.source(3, 1, 1, 0).is(REFUSED);
        x.source(PARAMETER, 1, 1, 3).is(0);
        x.source(PARAMETER, 1, 1, 4).is(REFUSED);
        x.source(COUNT, 1, 1, 1).is(1);
        x.simplify().is(2);
        x.source(SPLAT, 1, 1, -1).is(2);
        x.count(0).is(3);
    }

    private void argumentsFirst() {
        sentence("Terms", "Every call first tests its arguments in their order, out of range answering REFUSED");
        Traced x = freshWithSplats(MOST_VALUES);
        x.source(3, 1, 1, 0).is(REFUSED);
        x.source(PARAMETER, 5, 1, 0).is(REFUSED);
        x.source(PARAMETER, 1, 0, 0).is(REFUSED);
        x.source(PARAMETER, 1, 1, 4).is(REFUSED);
        x.source(COUNT, 1, 1, 2).is(REFUSED);
        x.source(COUNT, 1, 1, 1).is(FULL);
    }
}
