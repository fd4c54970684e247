/** The boundary cases of "Promise 10: cell". */
public final class Promise10CellTest extends Boundaries {
    public static void main(String[] args) {
        new Promise10CellTest().run();
    }

    @Override
    void testAll() {
        neverWorked();
        notLiveThen();
        outOfItsShape();
        noSuchValue();
        addingCameAfter();
        refusedAddingCameAfter();
        simplifyingCameAfter();
        settingCameAfter();
        noCellIsNone();
        asTheLatestWorkMadeIt();
        askingChangesNothing();
    }

    private void neverWorked() {
        sentence("Promise 10", "The cell of the value v as the latest work made it");
        fresh().cell(0, 0, 0).is(NONE);
        Traced x = freshWith(2, 2);
        x.mark(0, true).is(DONE);
        x.cell(0, 0, 0).is(NONE);
        x.simplify().is(1);
        x.cell(0, 0, 0).is(NONE);
        x.work().is(0);
        x.cell(0, 0, 0).is(0);
    }

    private void notLiveThen() {
        sentence("Promise 10", "NONE if it wasn't LIVE then");
        Traced x = freshWith(2, 2);
        x.operation(NEG, 0, 0, 0).is(1);
        x.operation(NEG, 1, 1, 0).is(2);
        x.mark(1, true).is(DONE);
        x.work().is(4);
        x.cell(0, 0, 0).is(0);
        x.cell(1, 0, 0).is(0);
        x.cell(2, 0, 0).is(NONE);
        x.mark(2, true).is(DONE);
        x.mark(1, false).is(DONE);
        x.simplify().is(2);
        x.work().is(0);
        x.cell(0, 0, 0).is(0);
        x.cell(1, 0, 0).is(NONE);
        x.cell(2, 0, 0).is(NONE);
    }

    private void outOfItsShape() {
        sentence("Promise 10", "i or j is out of its SHAPE");
        for (int rows = 1; rows <= 4; rows++) {
            for (int columns = 1; columns <= 4; columns++) {
                Traced x = fresh();
                x.source(SPLAT, rows, columns, 7).is(0);
                x.mark(0, true).is(DONE);
                x.work().is(0);
                x.cell(0, 0, 0).is(7);
                x.cell(0, rows - 1, 0).is(7);
                x.cell(0, 0, columns - 1).is(7);
                x.cell(0, rows - 1, columns - 1).is(7);
                for (int out : new int[] {-1, LEAST, MOST}) {
                    x.cell(0, out, 0).is(NONE);
                    x.cell(0, 0, out).is(NONE);
                    x.cell(0, rows - 1, out).is(NONE);
                    x.cell(0, out, columns - 1).is(NONE);
                }
                x.cell(0, rows, 0).is(NONE);
                x.cell(0, 0, columns).is(NONE);
                x.cell(0, rows, columns).is(NONE);
                x.cell(0, rows, -1).is(NONE);
                x.cell(0, -1, columns).is(NONE);
                x.cell(0, 1, -1).is(NONE);
            }
        }
    }

    private void noSuchValue() {
        sentence("Promise 10", "no such value");
        Traced x = freshWithSplats(3);
        for (int v = 0; v < 3; v++) {
            x.mark(v, true).is(DONE);
        }
        x.work().is(0);
        x.cell(0, 0, 0).is(0);
        x.cell(2, 0, 0).is(2);
        for (int v : new int[] {-1, 3, 27, 28, 29, LEAST, MOST}) {
            x.cell(v, 0, 0).is(NONE);
            x.cell(v, -1, 9).is(NONE);
        }
        Traced full = freshWithSplats(MOST_VALUES);
        full.mark(27, true).is(DONE);
        full.work().is(0);
        full.cell(27, 0, 0).is(27);
        full.cell(28, 0, 0).is(NONE);
        full.cell(-1, 0, 0).is(NONE);
    }

    private Traced worked() {
        Traced x = fresh();
        x.source(SPLAT, 2, 2, 7).is(0);
        x.mark(0, true).is(DONE);
        x.work().is(0);
        x.cell(0, 1, 1).is(7);
        return x;
    }

    private void addingCameAfter() {
        sentence("Promise 10", "or adding, marking or simplifying came after");
        for (int way = 0; way < 4; way++) {
            Traced x = worked();
            switch (way) {
                case 0: x.source(SPLAT, 1, 1, 0).is(1); break;
                case 1: x.operation(NEG, 0, 0, 0).is(1); break;
                case 2: x.reshape(FLAT, 0, 4, 1).is(1); break;
                default: x.part(0, 1, 1, 1, 1).is(1); break;
            }
            x.cell(0, 1, 1).is(NONE);
            x.work().is(0);
            x.cell(0, 1, 1).is(7);
            x.cell(1, 0, 0).is(NONE);
        }
    }

    private void refusedAddingCameAfter() {
        sentence("Terms", "a refused call changes nothing");
        Traced x = worked();
        x.source(3, 1, 1, 0).is(REFUSED);
        x.operation(ADD, 0, 1, 0).is(REFUSED);
        x.operation(ADD, 0, 0, 1).is(REFUSED);
        x.reshape(FLAT, 0, 3, 1).is(SHAPE);
        x.part(0, 1, 1, 2, 2).is(SHAPE);
        x.mark(1, true).is(REFUSED);
        x.set(0, 0, 4, 1).is(REFUSED);
        x.cell(0, 1, 1).is(7);
        Traced full = freshWithSplats(MOST_VALUES);
        full.mark(9, true).is(DONE);
        full.work().is(0);
        full.source(SPLAT, 1, 1, 0).is(FULL);
        full.operation(ADD, 0, 0, 0).is(FULL);
        full.reshape(FLAT, 0, 1, 1).is(FULL);
        full.part(0, 0, 0, 1, 1).is(FULL);
        full.cell(9, 0, 0).is(9);
    }

    private void simplifyingCameAfter() {
        sentence("Promise 10", "or adding, marking or simplifying came after");
        Traced x = worked();
        x.simplify().is(1);
        x.cell(0, 1, 1).is(NONE);
        x.work().is(0);
        x.cell(0, 1, 1).is(7);
        x.simplify().is(STATE);
        x.cell(0, 1, 1).is(7);
    }

    private void settingCameAfter() {
        sentence("Promise 10", "as the latest work made it");
        Traced x = freshWith(1, 1);
        x.mark(0, true).is(DONE);
        x.set(0, 0, 0, 1).is(DONE);
        x.work().is(0);
        x.set(0, 0, 0, 2).is(DONE);
        x.cell(0, 0, 0).is(1);
        x.work().is(0);
        x.cell(0, 0, 0).is(2);
    }

    private void noCellIsNone() {
        sentence("Terms", "`NONE = -1000000000000L`: The answer of cell where there is none.");
        Traced x = freshWith(1, 3);
        x.mark(0, true).is(DONE);
        x.set(0, 0, 0, LEAST).is(DONE);
        x.set(0, 0, 1, (int) NONE).is(DONE);
        x.set(0, 0, 2, REFUSED).is(DONE);
        x.work().is(0);
        x.cell(0, 0, 0).is(-2147483648L);
        x.cell(0, 0, 1).is((int) -1000000000000L);
        x.cell(0, 0, 2).is(-1);
        x.cell(0, 0, 3).is(-1000000000000L);
    }

    private void asTheLatestWorkMadeIt() {
        sentence("Promise 10", "The cell of the value v as the latest work made it");
        Traced x = freshWith(1, 1);
        x.operation(NEG, 0, 0, 0).is(1);
        x.mark(1, true).is(DONE);
        x.set(0, 0, 0, 5).is(DONE);
        x.work().is(1);
        x.mark(1, false).is(DONE);
        x.mark(0, true).is(DONE);
        x.set(0, 0, 0, 6).is(DONE);
        x.work().is(0);
        x.cell(0, 0, 0).is(6);
        x.cell(1, 0, 0).is(NONE);
        x.mark(1, true).is(DONE);
        x.cell(1, 0, 0).is(NONE);
        x.work().is(1);
        x.cell(1, 0, 0).is(-6);
    }

    private void askingChangesNothing() {
        sentence("Terms", "a refused call changes nothing");
        for (int v : new int[] {-1, MOST_VALUES, LEAST, MOST}) {
            unchanged(Unchanged.WITH_VALUES, x -> x.cell(v, 0, 0), NONE);
            unchanged(Unchanged.WITH_ALL_VALUES, x -> x.cell(v, 0, 0), NONE);
        }
        unchanged(Unchanged.WITHOUT_VALUES, x -> x.cell(0, 0, 0), NONE);
        unchanged(Unchanged.WITH_VALUES, x -> x.cell(x.values(), 0, 0), NONE);
        unchanged(Unchanged.WITH_VALUES, x -> x.cell(5, 2, 0), NONE);
        unchanged(Unchanged.WITH_ALL_VALUES, x -> x.cell(5, 0, -1), NONE);
    }
}
