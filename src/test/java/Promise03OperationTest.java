/** The boundary cases of "Promise 3: operation". */
public final class Promise03OperationTest extends Boundaries {
    private static final int[] PAIRS = {ADD, MUL, MAX};
    private static final int[] SINGLES = {NEG, TURN, SUM};

    public static void main(String[] args) {
        new Promise03OperationTest().run();
    }

    @Override
    void testAll() {
        kinds();
        firstValue();
        secondValue();
        secondMustBeFirst();
        numberOfSum();
        numberElse();
        pairsOfEqualShapes();
        pairsThatDontFit();
        shapesOfDot();
        dotsThatDontFit();
        shapeOfNeg();
        shapeOfTurn();
        shapeOfSum();
        full();
        itsNumber();
        argumentsFirst();
    }

    private void kinds() {
        sentence("Promise 3", "Adds an operation of the kind 3 .. 9");
        for (int kind = ADD; kind <= SUM; kind++) {
            Traced x = freshWith(2, 2);
            x.operation(kind, 0, 0, 0).is(1);
            x.value(1, 0).is(kind);
        }
        for (int kind : new int[] {2, 10, 0, 1, 11, 12, 13, -1, LEAST, MOST}) {
            refusedEverywhere(x -> x.operation(kind, 0, 0, 0));
        }
    }

    private void firstValue() {
        sentence("Promise 3", "on the values a and b");
        for (int kind = ADD; kind <= SUM; kind++) {
            int k = kind;
            boolean single = kind == NEG || kind == TURN || kind == SUM;
            Traced x = freshWithSplats(3);
            x.operation(kind, 0, 0, 0).is(3);
            x.value(3, 3).is(0);
            x.operation(kind, 2, single ? 2 : 0, 0).is(4);
            x.value(4, 3).is(2);
            x.operation(kind, 4, 4, 0).is(5);
            x.value(5, 3).is(4);
            x.operation(kind, 6, single ? 6 : 0, 0).is(REFUSED);
            refusedEverywhere(y -> y.operation(k, -1, single ? -1 : 0, 0));
            refusedEverywhere(y -> y.operation(k, y.values(), single ? y.values() : 0, 0));
            refusedEverywhere(y -> y.operation(k, MOST_VALUES, single ? MOST_VALUES : 0, 0));
            refusedEverywhere(y -> y.operation(k, LEAST, single ? LEAST : 0, 0));
            refusedEverywhere(y -> y.operation(k, MOST, single ? MOST : 0, 0));
        }
    }

    private void secondValue() {
        sentence("Promise 3", "on the values a and b");
        for (int kind : new int[] {ADD, MUL, MAX, DOT}) {
            Traced x = freshWithSplats(3);
            x.operation(kind, 1, 0, 0).is(3);
            x.value(3, 4).is(0);
            x.operation(kind, 1, 3, 0).is(4);
            x.value(4, 4).is(3);
            x.operation(kind, 1, 5, 0).is(REFUSED);
            refusedEverywhere(y -> y.operation(kind, 0, -1, 0));
            refusedEverywhere(y -> y.operation(kind, 0, y.values(), 0));
            refusedEverywhere(y -> y.operation(kind, 0, LEAST, 0));
            refusedEverywhere(y -> y.operation(kind, 0, MOST, 0));
        }
    }

    private void secondMustBeFirst() {
        sentence("Promise 3", "b must be a for NEG, TURN and SUM");
        for (int kind : SINGLES) {
            Traced x = freshWithSplats(3);
            x.operation(kind, 1, 0, 0).is(REFUSED);
            x.operation(kind, 1, 2, 0).is(REFUSED);
            x.operation(kind, 1, -1, 0).is(REFUSED);
            x.operation(kind, 1, 3, 0).is(REFUSED);
            x.count(0).is(3);
            x.operation(kind, 1, 1, 0).is(3);
            operationIs(x, 3, kind, 1, -1, 0, 0);
            refusedEverywhere(y -> y.operation(kind, 0, 1, 0));
            refusedEverywhere(y -> y.operation(kind, 1, 0, 0));
            refusedEverywhere(y -> y.operation(kind, 0, 4, 0));
            refusedEverywhere(y -> y.operation(kind, 0, -1, 0));
            refusedEverywhere(y -> y.operation(kind, 0, y.values(), 0));
        }
        for (int kind : new int[] {ADD, MUL, MAX, DOT}) {
            Traced x = freshWithSplats(2);
            x.operation(kind, 1, 1, 0).is(2);
            operationIs(x, 2, kind, 1, 1, 0, 0);
            x.operation(kind, 1, 0, 0).is(3);
            operationIs(x, 3, kind, 1, 0, 0, 0);
        }
    }

    private void numberOfSum() {
        sentence("Promise 3", "0 or 1 for SUM");
        for (int p = 0; p <= 1; p++) {
            Traced x = freshWith(3, 2);
            x.operation(SUM, 0, 0, p).is(1);
            operationIs(x, 1, SUM, 0, -1, p, 0);
        }
        for (int p : new int[] {-1, 2, LEAST, MOST}) {
            freshWith(3, 2).operation(SUM, 0, 0, p).is(REFUSED);
            refusedEverywhere(x -> x.operation(SUM, 0, 0, p));
        }
    }

    private void numberElse() {
        sentence("Promise 3", "else 0");
        for (int kind = ADD; kind < SUM; kind++) {
            int k = kind;
            Traced x = freshWith(2, 2);
            x.operation(kind, 0, 0, 0).is(1);
            x.value(1, 5).is(0);
            for (int p : new int[] {-1, 1, 2, LEAST, MOST}) {
                freshWith(2, 2).operation(kind, 0, 0, p).is(REFUSED);
                refusedEverywhere(y -> y.operation(k, 0, 0, p));
            }
        }
    }

    private void pairsOfEqualShapes() {
        sentence("Terms", "3 ADD, 4 MUL, 5 MAX of a and b, equal SHAPES, which it has");
        for (int kind : PAIRS) {
            for (int shape = 0; shape < 16; shape++) {
                Traced x = fresh();
                x.source(PARAMETER, 1 + shape / 4, 1 + shape % 4, 0).is(0);
                x.source(PARAMETER, 1 + shape / 4, 1 + shape % 4, 1).is(1);
                x.operation(kind, 0, 1, 0).is(2);
                shapeIs(x, 2, 1 + shape / 4, 1 + shape % 4);
            }
        }
    }

    private void pairsThatDontFit() {
        sentence("Promise 3", "SHAPES that don't fit: SHAPE");
        for (int kind : PAIRS) {
            for (int one = 0; one < 16; one++) {
                for (int other = 0; other < 16; other++) {
                    Traced x = fresh();
                    x.source(PARAMETER, 1 + one / 4, 1 + one % 4, 0).is(0);
                    x.source(PARAMETER, 1 + other / 4, 1 + other % 4, 0).is(1);
                    x.operation(kind, 0, 1, 0).is(one == other ? 2 : SHAPE);
                    x.count(0).is(one == other ? 3 : 2);
                }
            }
            noShapeWithValues(x -> x.operation(kind, 0, 4, 0));
            noShapeWithValues(x -> x.operation(kind, 0, 5, 0));
            noShapeWithValues(x -> x.operation(kind, 5, 4, 0));
        }
    }

    private void shapesOfDot() {
        sentence("Terms", "8 DOT of a and b, a's columns as many as b's rows: rows of a, columns of b");
        for (int rows = 1; rows <= 4; rows++) {
            for (int inner = 1; inner <= 4; inner++) {
                for (int columns = 1; columns <= 4; columns++) {
                    Traced x = fresh();
                    x.source(PARAMETER, rows, inner, 0).is(0);
                    x.source(PARAMETER, inner, columns, 0).is(1);
                    x.operation(DOT, 0, 1, 0).is(2);
                    shapeIs(x, 2, rows, columns);
                    operationIs(x, 2, DOT, 0, 1, 0, 0);
                }
            }
        }
    }

    private void dotsThatDontFit() {
        sentence("Promise 3", "SHAPES that don't fit: SHAPE");
        for (int rows = 1; rows <= 4; rows++) {
            for (int columns = 1; columns <= 4; columns++) {
                for (int inner = 1; inner <= 4; inner++) {
                    for (int other = 1; other <= 4; other++) {
                        Traced x = fresh();
                        x.source(PARAMETER, rows, inner, 0).is(0);
                        x.source(PARAMETER, other, columns, 0).is(1);
                        x.operation(DOT, 0, 1, 0).is(inner == other ? 2 : SHAPE);
                        x.count(0).is(inner == other ? 3 : 2);
                    }
                }
            }
        }
        noShapeWithValues(x -> x.operation(DOT, 0, 0, 0));
        noShapeWithValues(x -> x.operation(DOT, 0, 5, 0));
        noShapeWithValues(x -> x.operation(DOT, 4, 4, 0));
    }

    private void shapeOfNeg() {
        sentence("Terms", "6 NEG of a: each cell's negative.");
        for (int rows = 1; rows <= 4; rows++) {
            for (int columns = 1; columns <= 4; columns++) {
                Traced x = freshWith(rows, columns);
                x.operation(NEG, 0, 0, 0).is(1);
                shapeIs(x, 1, rows, columns);
            }
        }
    }

    private void shapeOfTurn() {
        sentence("Terms", "7 TURN of a: rows and columns changed.");
        for (int rows = 1; rows <= 4; rows++) {
            for (int columns = 1; columns <= 4; columns++) {
                Traced x = freshWith(rows, columns);
                x.operation(TURN, 0, 0, 0).is(1);
                shapeIs(x, 1, columns, rows);
            }
        }
    }

    private void shapeOfSum() {
        sentence("Terms", "p 0: over the rows, 1 row and as many columns as a; "
                + "p 1: over the columns, as many rows and 1 column.");
        for (int rows = 1; rows <= 4; rows++) {
            for (int columns = 1; columns <= 4; columns++) {
                Traced x = freshWith(rows, columns);
                x.operation(SUM, 0, 0, 0).is(1);
                x.operation(SUM, 0, 0, 1).is(2);
                shapeIs(x, 1, 1, columns);
                shapeIs(x, 2, rows, 1);
            }
        }
    }

    private void full() {
        sentence("Promise 3", "28 values: FULL.");
        for (int kind = ADD; kind <= SUM; kind++) {
            int k = kind;
            Traced x = freshWithSplats(MOST_VALUES - 1);
            x.operation(kind, 26, 26, 0).is(MOST_VALUES - 1);
            x.operation(kind, 26, 26, 0).is(FULL);
            x.operation(kind, 27, 27, 0).is(FULL);
            x.count(0).is(MOST_VALUES);
            x.value(MOST_VALUES, 0).is(REFUSED);
            fullWithAllValues(y -> y.operation(k, 6, 6, 0));
        }
    }

    private void itsNumber() {
        sentence("Promise 3", "Answers its number.");
        Traced x = freshWith(2, 3);
        x.operation(DOT, 0, 0, 0).is(SHAPE);
        x.operation(ADD, 0, 1, 0).is(REFUSED);
        x.operation(ADD, 0, 0, 0).is(1);
        x.operation(ADD, 0, 1, 0).is(2);
        x.simplify().is(3);
        x.operation(TURN, 2, 2, 0).is(3);
        x.count(0).is(4);
    }

    private void argumentsFirst() {
        sentence("Terms", "Every call first tests its arguments in their order, out of range answering REFUSED, "
                + "then what is said");
        refusedEverywhere(x -> x.operation(ADD, 0, 4, 1));
        refusedEverywhere(x -> x.operation(MAX, 0, 5, -1));
        refusedEverywhere(x -> x.operation(DOT, 0, 0, 1));
        refusedEverywhere(x -> x.operation(SUM, 0, 4, 0));
        refusedEverywhere(x -> x.operation(SUM, 0, 0, 2));
        refusedEverywhere(x -> x.operation(10, 0, 4, 0));
        refusedEverywhere(x -> x.operation(DOT, x.values(), 0, 0));
    }
}
