/** The boundary cases of "Promise 7: set". */
public final class Promise07SetTest extends Boundaries {
    public static void main(String[] args) {
        new Promise07SetTest().run();
    }

    @Override
    void testAll() {
        everyCell();
        rowsAndColumnsOut();
        parametersOut();
        anyNumber();
        upperLeftPart();
        atAnyTime();
        latestHolds();
    }

    private void everyCell() {
        sentence("Promise 7", "Sets the cell in row i and column j (0 .. 3) of PARAMETER p (0 .. 3)");
        Traced x = fresh();
        for (int p = 0; p < 4; p++) {
            for (int i = 0; i < 4; i++) {
                for (int j = 0; j < 4; j++) {
                    x.set(p, i, j, 1000 * p + 10 * i + j - 5).is(DONE);
                }
            }
            x.source(PARAMETER, 4, 4, p).is(p);
            x.mark(p, true).is(DONE);
        }
        x.work().is(0);
        for (int p = 0; p < 4; p++) {
            for (int i = 0; i < 4; i++) {
                for (int j = 0; j < 4; j++) {
                    x.cell(p, i, j).is(1000 * p + 10 * i + j - 5);
                }
            }
        }
    }

    private void rowsAndColumnsOut() {
        sentence("Promise 7", "in row i and column j (0 .. 3)");
        for (int p = 0; p < 4; p++) {
            int parameter = p;
            for (int out : OUT_OF_0_TO_3) {
                refusedEverywhere(x -> x.set(parameter, out, 0, 77));
                refusedEverywhere(x -> x.set(parameter, 0, out, 77));
                refusedEverywhere(x -> x.set(parameter, 3, out, 77));
            }
            // these lie between the cells of a matrix that is held in one row
            refusedEverywhere(x -> x.set(parameter, 1, -1, 77));
            refusedEverywhere(x -> x.set(parameter, -1, 4, 77));
            refusedEverywhere(x -> x.set(parameter, 0, 15, 77));
        }
    }

    private void parametersOut() {
        sentence("Promise 7", "of PARAMETER p (0 .. 3)");
        for (int out : OUT_OF_0_TO_3) {
            refusedEverywhere(x -> x.set(out, 0, 0, 77));
            refusedEverywhere(x -> x.set(out, 3, 3, 77));
        }
    }

    private void anyNumber() {
        sentence("Terms", "rows and columns (1 .. 4 each) of ints, all wrapping");
        for (int number : new int[] {LEAST, LEAST + 1, -1, 0, 1, MOST - 1, MOST}) {
            Traced x = freshWith(1, 1);
            x.mark(0, true).is(DONE);
            x.set(0, 0, 0, number).is(DONE);
            x.work().is(0);
            x.cell(0, 0, 0).is(number);
        }
    }

    private void upperLeftPart() {
        sentence("Promise 7", "a matrix of 4 rows and columns of which a value takes the upper left part");
        for (int rows = 1; rows <= 4; rows++) {
            for (int columns = 1; columns <= 4; columns++) {
                Traced x = freshWith(rows, columns);
                x.mark(0, true).is(DONE);
                for (int i = 0; i < 4; i++) {
                    for (int j = 0; j < 4; j++) {
                        x.set(0, i, j, 10 * i + j + 1).is(DONE);
                    }
                }
                x.work().is(0);
                for (int i = 0; i < 4; i++) {
                    for (int j = 0; j < 4; j++) {
                        x.cell(0, i, j).is(i < rows && j < columns ? 10 * i + j + 1 : NONE);
                    }
                }
            }
        }
    }

    private void atAnyTime() {
        sentence("Promise 7", "Allowed at any time.");
        Traced x = fresh();
        x.set(0, 0, 0, 1).is(DONE);
        x.simplify().is(0);
        x.set(1, 0, 0, 2).is(DONE);
        x.count(9).is(1);
        x.source(PARAMETER, 1, 1, 0).is(0);
        x.source(PARAMETER, 1, 1, 1).is(1);
        x.mark(0, true).is(DONE);
        x.mark(1, true).is(DONE);
        x.work().is(0);
        x.cell(0, 0, 0).is(1);
        x.cell(1, 0, 0).is(2);
        x.set(0, 0, 0, 3).is(DONE);
        x.cell(0, 0, 0).is(1);
        x.work().is(0);
        x.cell(0, 0, 0).is(3);
        x.simplify().is(2);
        x.set(1, 0, 0, 4).is(DONE);
        x.count(9).is(1);
        x.simplify().is(STATE);
        while (x.values() < MOST_VALUES) {
            x.source(SPLAT, 1, 1, 0);
        }
        x.source(SPLAT, 1, 1, 0).is(FULL);
        x.set(0, 0, 0, 5).is(DONE);
        x.work().is(0);
        x.cell(0, 0, 0).is(5);
        x.cell(1, 0, 0).is(4);
    }

    private void latestHolds() {
        sentence("Promise 9", "on the PARAMETERS as they are now");
        Traced x = freshWith(1, 2);
        x.mark(0, true).is(DONE);
        x.set(0, 0, 1, 6).is(DONE);
        x.set(0, 0, 1, 7).is(DONE);
        x.set(0, 0, 1, 7).is(DONE);
        x.work().is(0);
        cellsAre(x, 0, new int[][] {{0, 7}});
        x.set(0, 0, 1, 0).is(DONE);
        x.work().is(0);
        cellsAre(x, 0, new int[][] {{0, 0}});
    }
}
