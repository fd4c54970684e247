/** The boundary cases of "Promise 6: mark". */
public final class Promise06MarkTest extends Boundaries {
    public static void main(String[] args) {
        new Promise06MarkTest().run();
    }

    @Override
    void testAll() {
        values();
        valuesOut();
        refusedMarksNoLaterValue();
        markedOrNot();
        marksStay();
        makesNotSimplified();
        comesAfterWork();
    }

    private void values() {
        sentence("Promise 6", "The value v is MARKED, or not: DONE.");
        Traced one = freshWithSplats(1);
        one.mark(0, true).is(DONE);
        one.value(0, 7).is(1);
        one.mark(1, true).is(REFUSED);
        Traced all = freshWithSplats(MOST_VALUES);
        all.mark(0, true).is(DONE);
        all.mark(27, true).is(DONE);
        all.mark(28, true).is(REFUSED);
        all.mark(-1, true).is(REFUSED);
        for (int v = 0; v < MOST_VALUES; v++) {
            all.value(v, 7).is(v == 0 || v == 27 ? 1 : 0);
        }
        all.count(7).is(2);
    }

    private void valuesOut() {
        sentence("Terms", "out of range answering REFUSED, then what is said; a refused call changes nothing.");
        for (int v : new int[] {-1, MOST_VALUES, LEAST, MOST}) {
            refusedEverywhere(x -> x.mark(v, true));
            refusedEverywhere(x -> x.mark(v, false));
        }
        refusedEverywhere(x -> x.mark(x.values(), true));
        refusedEverywhere(x -> x.mark(x.values(), false));
    }

    private void refusedMarksNoLaterValue() {
        sentence("Terms", "a refused call changes nothing");
        Traced x = fresh();
        x.mark(0, true).is(REFUSED);
        x.source(SPLAT, 1, 1, 5).is(0);
        x.value(0, 7).is(0);
        x.mark(1, true).is(REFUSED);
        x.operation(NEG, 0, 0, 0).is(1);
        x.value(1, 7).is(0);
        x.count(7).is(0);
    }

    private void markedOrNot() {
        sentence("Promise 6", "The value v is MARKED, or not");
        Traced x = freshWithSplats(2);
        x.mark(1, false).is(DONE);
        x.count(7).is(0);
        x.mark(1, true).is(DONE);
        x.mark(1, true).is(DONE);
        x.count(7).is(1);
        x.mark(1, false).is(DONE);
        x.count(7).is(0);
        x.mark(1, false).is(DONE);
        x.count(7).is(0);
        x.mark(0, true).is(DONE);
        x.value(0, 7).is(1);
        x.value(1, 7).is(0);
    }

    private void marksStay() {
        sentence("Terms", "MARKED values are the module's results");
        Traced x = freshWith(2, 2);
        x.mark(0, true).is(DONE);
        x.operation(NEG, 0, 0, 0).is(1);
        x.value(0, 7).is(1);
        x.value(1, 7).is(0);
        x.operation(NEG, 1, 1, 0).is(2);
        x.mark(2, true).is(DONE);
        x.mark(0, false).is(DONE);
        x.simplify().is(2);
        x.value(0, 7).is(1);
        x.value(2, 7).is(0);
        x.work().is(0);
        x.mark(1, false).is(DONE);
        x.value(2, 7).is(1);
        x.count(7).is(3);
        x.mark(2, false).is(DONE);
        x.count(7).is(0);
    }

    private void makesNotSimplified() {
        sentence("Terms", "Adding or marking makes a module not simplified");
        for (int way = 0; way < 4; way++) {
            Traced x = freshWith(2, 2);
            x.source(SPLAT, 2, 2, 0).is(1);
            x.operation(ADD, 1, 0, 0).is(2);
            x.mark(2, true).is(DONE);
            x.simplify().is(2);
            x.standIn(2).is(0);
            x.count(9).is(1);
            // turned on, on already, turned off, off already
            x.mark(way % 3 == 0 ? 1 : 2, way < 2).is(DONE);
            x.count(9).is(0);
            x.standIn(2).is(2);
            operationIs(x, 2, ADD, 1, 0, 0, 0);
            x.simplify().is(2);
        }
    }

    private void comesAfterWork() {
        sentence("Promise 10", "NONE if it wasn't LIVE then, i or j is out of its SHAPE, no such value, "
                + "or adding, marking or simplifying came after");
        for (int way = 0; way < 4; way++) {
            Traced x = freshWithSplats(2);
            x.mark(1, true).is(DONE);
            x.work().is(0);
            x.cell(1, 0, 0).is(1);
            x.mark(2, true).is(REFUSED);
            x.cell(1, 0, 0).is(1);
            // turned on, on already, turned off, off already
            x.mark(way % 3 == 0 ? 0 : 1, way < 2).is(DONE);
            x.cell(1, 0, 0).is(NONE);
        }
    }
}
