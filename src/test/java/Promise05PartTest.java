/** The boundary cases of "Promise 5: part". */
public final class Promise05PartTest extends Boundaries {
    public static void main(String[] args) {
        new Promise05PartTest().run();
    }

    @Override
    void testAll() {
        values();
        places();
        shapes();
        partsThatLieIn();
        partsThatDont();
        full();
        itsNumber();
        argumentsFirst();
    }

    private void values() {
        sentence("Promise 5", "Adds a PART of the value a");
        Traced x = freshWithSplats(3);
        x.part(0, 0, 0, 1, 1).is(3);
        operationIs(x, 3, PART, 0, -1, 0, 0);
        x.part(3, 0, 0, 1, 1).is(4);
        operationIs(x, 4, PART, 3, -1, 0, 0);
        x.part(5, 0, 0, 1, 1).is(REFUSED);
        for (int a : new int[] {-1, MOST_VALUES, LEAST, MOST}) {
            refusedEverywhere(y -> y.part(a, 0, 0, 1, 1));
        }
        refusedEverywhere(y -> y.part(y.values(), 0, 0, 1, 1));
    }

    private void places() {
        sentence("Promise 5", "from row p and column q (0 .. 3) on");
        Traced x = freshWith(4, 4);
        x.part(0, 0, 0, 1, 1).is(1);
        x.part(0, 3, 0, 1, 1).is(2);
        x.part(0, 0, 3, 1, 1).is(3);
        x.part(0, 3, 3, 1, 1).is(4);
        operationIs(x, 1, PART, 0, -1, 0, 0);
        operationIs(x, 2, PART, 0, -1, 3, 0);
        operationIs(x, 3, PART, 0, -1, 0, 3);
        operationIs(x, 4, PART, 0, -1, 3, 3);
        for (int out : OUT_OF_0_TO_3) {
            refusedEverywhere(y -> y.part(0, out, 0, 1, 1));
            refusedEverywhere(y -> y.part(0, 0, out, 1, 1));
        }
    }

    private void shapes() {
        sentence("Promise 5", "of the SHAPE");
        Traced x = freshWith(4, 4);
        x.part(0, 0, 0, 1, 1).is(1);
        x.part(0, 0, 0, 4, 1).is(2);
        x.part(0, 0, 0, 1, 4).is(3);
        x.part(0, 0, 0, 4, 4).is(4);
        shapeIs(x, 1, 1, 1);
        shapeIs(x, 2, 4, 1);
        shapeIs(x, 3, 1, 4);
        shapeIs(x, 4, 4, 4);
        for (int out : OUT_OF_1_TO_4) {
            refusedEverywhere(y -> y.part(0, 0, 0, out, 1));
            refusedEverywhere(y -> y.part(0, 0, 0, 1, out));
            refusedEverywhere(y -> y.part(0, 1, 1, out, out));
        }
    }

    private void partsThatLieIn() {
        sentence("Terms", "12 PART of a: from row p and column q on, any SHAPE that lies in a.");
        for (int rows = 1; rows <= 4; rows++) {
            for (int columns = 1; columns <= 4; columns++) {
                for (int p = 0; p < rows; p++) {
                    for (int q = 0; q < columns; q++) {
                        Traced x = freshWith(rows, columns);
                        x.part(0, p, q, rows - p, columns - q).is(1);
                        operationIs(x, 1, PART, 0, -1, p, q);
                        shapeIs(x, 1, rows - p, columns - q);
                        x.part(0, p, q, 1, 1).is(2);
                        shapeIs(x, 2, 1, 1);
                    }
                }
            }
        }
    }

    private void partsThatDont() {
        sentence("Promise 5", "it doesn't lie in a: SHAPE");
        for (int shape = 0; shape < 16; shape++) {
            for (int place = 0; place < 16; place++) {
                for (int size = 0; size < 16; size++) {
                    boolean lies = place / 4 + size / 4 <= shape / 4 && place % 4 + size % 4 <= shape % 4;
                    Traced x = freshWith(1 + shape / 4, 1 + shape % 4);
                    x.part(0, place / 4, place % 4, 1 + size / 4, 1 + size % 4).is(lies ? 1 : SHAPE);
                    x.count(0).is(lies ? 2 : 1);
                }
            }
        }
        noShapeWithValues(x -> x.part(0, 2, 0, 1, 1));
        noShapeWithValues(x -> x.part(0, 0, 3, 1, 1));
        noShapeWithValues(x -> x.part(0, 1, 0, 2, 3));
        noShapeWithValues(x -> x.part(0, 0, 1, 2, 3));
        noShapeWithValues(x -> x.part(0, 0, 0, 3, 2));
        noShapeWithValues(x -> x.part(0, 3, 3, 4, 4));
    }

    private void full() {
        sentence("Promise 5", "28 values: FULL.");
        Traced x = freshWithSplats(MOST_VALUES - 1);
        x.part(26, 0, 0, 1, 1).is(MOST_VALUES - 1);
        x.part(26, 0, 0, 1, 1).is(FULL);
        x.part(27, 0, 0, 1, 1).is(FULL);
        x.count(0).is(MOST_VALUES);
        fullWithAllValues(y -> y.part(0, 0, 0, 2, 3));
        fullWithAllValues(y -> y.part(0, 1, 2, 1, 1));
    }

    private void itsNumber() {
        sentence("Promise 5", "Answers its number.");
        Traced x = freshWith(3, 3);
        x.part(0, 3, 0, 1, 1).is(SHAPE);
        x.part(0, 4, 0, 1, 1).is(REFUSED);
        x.part(0, 2, 2, 1, 1).is(1);
        x.simplify().is(2);
        x.part(1, 0, 0, 1, 1).is(2);
        x.count(0).is(3);
    }

    private void argumentsFirst() {
        sentence("Terms", "Every call first tests its arguments in their order, out of range answering REFUSED, "
                + "then what is said");
        refusedEverywhere(x -> x.part(0, 3, 4, 1, 1));
        refusedEverywhere(x -> x.part(0, 3, 3, 5, 1));
        refusedEverywhere(x -> x.part(0, 3, 3, 1, 0));
        refusedEverywhere(x -> x.part(x.values(), 3, 3, 4, 4));
        refusedEverywhere(x -> x.part(0, MOST, MOST, 4, 4));
    }
}
