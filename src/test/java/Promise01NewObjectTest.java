/** The boundary cases of "Promise 1: A new object". */
public final class Promise01NewObjectTest extends Boundaries {
    public static void main(String[] args) {
        new Promise01NewObjectTest().run();
    }

    @Override
    void testAll() {
        noValues();
        noneToBuildOn();
        cellsOfParameters();
        noneMarked();
        onItsOwn();
    }

    private void noValues() {
        sentence("Promise 1", "No values");
        for (int r = 0; r <= 9; r++) {
            fresh().count(r).is(0);
        }
        fresh().standIn(0).is(REFUSED);
        fresh().value(0, 0).is(REFUSED);
        fresh().value(0, 7).is(REFUSED);
        fresh().cell(0, 0, 0).is(NONE);
        fresh().mark(0, true).is(REFUSED);
        fresh().mark(0, false).is(REFUSED);
        fresh().simplify().is(0);
        fresh().work().is(0);
        Traced x = fresh();
        x.work().is(0);
        x.cell(0, 0, 0).is(NONE);
        x.source(SPLAT, 1, 1, 0).is(0);
    }

    private void noneToBuildOn() {
        sentence("Terms", "ARGUMENTS, values that were there before");
        for (int kind = ADD; kind <= SUM; kind++) {
            fresh().operation(kind, 0, 0, 0).is(REFUSED);
        }
        fresh().reshape(SPREAD, 0, 1, 1).is(REFUSED);
        fresh().reshape(FLAT, 0, 1, 1).is(REFUSED);
        fresh().part(0, 0, 0, 1, 1).is(REFUSED);
    }

    private void cellsOfParameters() {
        sentence("Promise 1", "all cells of the PARAMETERS are 0");
        Traced x = fresh();
        for (int p = 0; p < 4; p++) {
            x.source(PARAMETER, 4, 4, p).is(p);
            x.mark(p, true).is(DONE);
        }
        x.work().is(0);
        for (int p = 0; p < 4; p++) {
            cellsAre(x, p, new int[4][4]);
        }
    }

    private void noneMarked() {
        sentence("Terms", "MARKED values are the module's results; none at first.");
        Traced x = freshWithSplats(MOST_VALUES);
        x.count(7).is(0);
        for (int v = 0; v < MOST_VALUES; v++) {
            x.value(v, 7).is(0);
        }
        x.simplify().is(MOST_VALUES);
        x.count(7).is(0);
        x.work().is(0);
        x.cell(0, 0, 0).is(NONE);
        x.cell(27, 0, 0).is(NONE);
    }

    /** A new object is new whatever was done with another one. */
    private void onItsOwn() {
        sentence("Promise 1", "No values; all cells of the PARAMETERS are 0.");
        Traced other = freshWith(4, 4);
        other.set(0, 0, 0, 7).is(DONE);
        other.mark(0, true).is(DONE);
        other.operation(MAX, 0, 0, 0).is(1);
        other.simplify().is(1);
        other.work().is(0);
        Traced x = fresh();
        for (int r = 0; r <= 9; r++) {
            x.count(r).is(0);
        }
        x.source(PARAMETER, 4, 4, 0).is(0);
        x.count(7).is(0);
        x.mark(0, true).is(DONE);
        x.work().is(0);
        x.cell(0, 0, 0).is(0);
        other.cell(0, 0, 0).is(7);
        other.count(0).is(2);
        other.count(4).is(1);
    }
}
