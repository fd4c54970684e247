/** The boundary cases of "Promise 9: work". */
public final class Promise09WorkTest extends Boundaries {
    public static void main(String[] args) {
        new Promise09WorkTest().run();
    }

    @Override
    void testAll() {
        nothingLive();
        allLive();
        onlyLive();
        parametersAsTheyAreNow();
        sourcesAreNoWork();
        workOfDot();
        workOfSum();
        workElse();
        mostWork();
        beforeAndAfterSimplifying();
        afterSimplifyingAlone();
    }

    private void nothingLive() {
        sentence("Promise 9", "Answers the sum of their WORK.");
        fresh().work().is(0);
        Traced x = freshWith(4, 4);
        x.operation(DOT, 0, 0, 0).is(1);
        x.work().is(0);
        x.cell(0, 0, 0).is(NONE);
        x.mark(1, true).is(DONE);
        x.work().is(64);
        x.mark(1, false).is(DONE);
        x.work().is(0);
    }

    private void allLive() {
        sentence("Promise 9", "Works out all LIVE values");
        Traced x = freshWith(1, 1);
        x.set(0, 0, 0, 3).is(DONE);
        for (int v = 1; v < MOST_VALUES; v++) {
            x.operation(NEG, v - 1, v - 1, 0).is(v);
        }
        x.mark(27, true).is(DONE);
        x.work().is(27);
        for (int v = 0; v < MOST_VALUES; v++) {
            x.cell(v, 0, 0).is(v % 2 == 0 ? 3 : -3);
        }
    }

    private void onlyLive() {
        sentence("Promise 9", "Works out all LIVE values");
        Traced x = freshWith(2, 2);
        x.operation(NEG, 0, 0, 0).is(1);
        x.operation(NEG, 0, 0, 0).is(2);
        x.operation(ADD, 2, 2, 0).is(3);
        x.mark(2, true).is(DONE);
        x.work().is(4);
        x.cell(0, 1, 1).is(0);
        x.cell(1, 1, 1).is(NONE);
        x.cell(2, 1, 1).is(0);
        x.cell(3, 1, 1).is(NONE);
    }

    private void parametersAsTheyAreNow() {
        sentence("Promise 9", "on the PARAMETERS as they are now");
        Traced x = freshWith(1, 1);
        x.operation(NEG, 0, 0, 0).is(1);
        x.mark(1, true).is(DONE);
        x.work().is(1);
        x.cell(1, 0, 0).is(0);
        x.set(0, 0, 0, 8).is(DONE);
        x.cell(1, 0, 0).is(0);
        x.work().is(1);
        x.cell(1, 0, 0).is(-8);
        x.set(0, 0, 0, 9).is(DONE);
        x.set(0, 4, 0, 10).is(REFUSED);
        x.work().is(1);
        x.work().is(1);
        x.cell(1, 0, 0).is(-9);
    }

    private void sourcesAreNoWork() {
        sentence("Terms", "The WORK of an OPERATION: 0 for the KINDS 0 to 2");
        for (int kind = PARAMETER; kind <= COUNT; kind++) {
            Traced x = fresh();
            x.source(kind, 4, 4, 1).is(0);
            x.mark(0, true).is(DONE);
            x.work().is(0);
            x.count(8).is(0);
            x.operation(ADD, 0, 0, 0).is(1);
            x.mark(1, true).is(DONE);
            x.work().is(16);
        }
    }

    private void workOfDot() {
        sentence("Terms", "for DOT, rows * columns * the first one's columns");
        for (int rows = 1; rows <= 4; rows++) {
            for (int inner = 1; inner <= 4; inner++) {
                for (int columns = 1; columns <= 4; columns++) {
                    Traced x = fresh();
                    x.source(PARAMETER, rows, inner, 0).is(0);
                    x.source(PARAMETER, inner, columns, 1).is(1);
                    x.operation(DOT, 0, 1, 0).is(2);
                    x.mark(2, true).is(DONE);
                    x.work().is(rows * columns * inner);
                    x.count(8).is(rows * columns * inner);
                }
            }
        }
    }

    private void workOfSum() {
        sentence("Terms", "for SUM the cells of its ARGUMENT");
        for (int rows = 1; rows <= 4; rows++) {
            for (int columns = 1; columns <= 4; columns++) {
                for (int p = 0; p <= 1; p++) {
                    Traced x = freshWith(rows, columns);
                    x.operation(SUM, 0, 0, p).is(1);
                    x.mark(1, true).is(DONE);
                    x.work().is(rows * columns);
                }
            }
        }
    }

    private void workElse() {
        sentence("Terms", "else the cells of its SHAPE");
        for (int kind : new int[] {ADD, MUL, MAX, NEG, TURN}) {
            for (int rows = 1; rows <= 4; rows++) {
                for (int columns = 1; columns <= 4; columns++) {
                    Traced x = freshWith(rows, columns);
                    x.operation(kind, 0, 0, 0).is(1);
                    x.mark(1, true).is(DONE);
                    x.work().is(rows * columns);
                }
            }
        }
        Traced reshaped = freshWith(1, 4);
        reshaped.reshape(SPREAD, 0, 4, 4).is(1);
        reshaped.reshape(FLAT, 0, 2, 2).is(2);
        reshaped.part(0, 0, 3, 1, 1).is(3);
        int[] works = {0, 16, 4, 1};
        for (int v = 1; v <= 3; v++) {
            reshaped.mark(v, true).is(DONE);
            reshaped.work().is(works[v]);
            reshaped.mark(v, false).is(DONE);
        }
    }

    private void mostWork() {
        sentence("Promise 9", "Answers the sum of their WORK.");
        Traced x = freshWith(4, 4);
        for (int v = 1; v < MOST_VALUES; v++) {
            x.operation(DOT, v - 1, v - 1, 0).is(v);
        }
        x.mark(27, true).is(DONE);
        x.work().is(27 * 64);
        x.count(8).is(27 * 64);
        x.mark(0, true).is(DONE);
        x.mark(13, true).is(DONE);
        x.work().is(27 * 64);
        x.mark(27, false).is(DONE);
        x.work().is(13 * 64);
    }

    private void beforeAndAfterSimplifying() {
        sentence("What it is", "worked out on parameters, before or after simplifying");
        Traced x = freshWith(2, 2);
        x.source(SPLAT, 2, 2, 1).is(1);
        x.operation(MUL, 0, 1, 0).is(2);
        x.operation(TURN, 2, 2, 0).is(3);
        x.operation(SUM, 1, 1, 1).is(4);
        x.mark(3, true).is(DONE);
        x.mark(4, true).is(DONE);
        x.set(0, 0, 1, 6).is(DONE);
        x.work().is(12);
        cellsAre(x, 3, new int[][] {{0, 0}, {6, 0}});
        cellsAre(x, 4, new int[][] {{2}, {2}});
        x.simplify().is(4);
        x.work().is(4);
        cellsAre(x, 3, new int[][] {{0, 0}, {6, 0}});
        cellsAre(x, 4, new int[][] {{2}, {2}});
        x.cell(2, 0, 0).is(NONE);
        x.cell(1, 0, 0).is(NONE);
        x.mark(3, true).is(DONE);
        x.work().is(12);
        cellsAre(x, 2, new int[][] {{0, 6}, {0, 0}});
    }

    /** No earlier work has left cells that a wrong operation could find. */
    private void afterSimplifyingAlone() {
        sentence("What it is", "worked out on parameters, before or after simplifying");
        Traced x = freshWith(2, 2);
        x.set(0, 1, 0, 6).is(DONE);
        x.source(SPLAT, 2, 2, 3).is(1);
        x.operation(SUM, 1, 1, 0).is(2);
        x.operation(NEG, 0, 0, 0).is(3);
        x.operation(NEG, 3, 3, 0).is(4);
        x.operation(TURN, 4, 4, 0).is(5);
        x.reshape(FLAT, 0, 1, 4).is(6);
        x.reshape(FLAT, 6, 4, 1).is(7);
        x.mark(2, true).is(DONE);
        x.mark(5, true).is(DONE);
        x.mark(7, true).is(DONE);
        x.simplify().is(7);
        x.work().is(8);
        cellsAre(x, 2, new int[][] {{6, 6}});
        cellsAre(x, 5, new int[][] {{0, 6}, {0, 0}});
        cellsAre(x, 7, new int[][] {{0}, {0}, {6}, {0}});
        x.cell(6, 0, 0).is(NONE);
        x.cell(3, 0, 0).is(NONE);
    }
}
