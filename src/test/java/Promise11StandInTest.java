/** The boundary cases of "Promise 11: standIn". */
public final class Promise11StandInTest extends Boundaries {
    public static void main(String[] args) {
        new Promise11StandInTest().run();
    }

    @Override
    void testAll() {
        valuesOut();
        valuesIn();
        itselfIfNotSimplified();
        notAfterItAndSameShape();
    }

    private void valuesOut() {
        sentence("Terms", "out of range answering REFUSED, then what is said; a refused call changes nothing.");
        for (int v : new int[] {-1, MOST_VALUES, MOST_VALUES + 1, LEAST, MOST}) {
            refusedEverywhere(x -> x.standIn(v));
        }
        refusedEverywhere(x -> x.standIn(x.values()));
    }

    private void valuesIn() {
        sentence("Promise 11", "The STAND-IN of v");
        Traced x = fresh();
        for (int v = 0; v < MOST_VALUES; v++) {
            x.source(COUNT, 2, 2, v % 2).is(v);
        }
        x.simplify().is(2);
        for (int v = 0; v < MOST_VALUES; v++) {
            x.standIn(v).is(v % 2);
        }
        x.standIn(MOST_VALUES).is(REFUSED);
        x.standIn(-1).is(REFUSED);
    }

    private void itselfIfNotSimplified() {
        sentence("Promise 11", "itself if not simplified");
        Traced x = freshWith(2, 2);
        x.operation(MAX, 0, 0, 0).is(1);
        standInsAre(x, 0, 1);
        x.simplify().is(1);
        standInsAre(x, 0, 0);
        x.mark(1, false).is(DONE);
        standInsAre(x, 0, 1);
        x.simplify().is(1);
        standInsAre(x, 0, 0);
        x.source(SPLAT, 1, 1, 0).is(2);
        standInsAre(x, 0, 1, 2);
        x.simplify().is(2);
        standInsAre(x, 0, 0, 2);
        x.source(SPLAT, 5, 1, 0).is(REFUSED);
        x.simplify().is(STATE);
        standInsAre(x, 0, 0, 2);
    }

    private void notAfterItAndSameShape() {
        sentence("Terms", "gives each a STAND-IN, a value not after it with the same SHAPE");
        Traced x = freshWith(1, 4);
        x.reshape(FLAT, 0, 4, 1).is(1);
        x.operation(TURN, 0, 0, 0).is(2);
        x.reshape(FLAT, 2, 1, 4).is(3);
        x.reshape(FLAT, 1, 1, 4).is(4);
        x.reshape(FLAT, 1, 2, 2).is(5);
        x.operation(TURN, 5, 5, 0).is(6);
        x.operation(TURN, 6, 6, 0).is(7);
        x.source(SPLAT, 1, 4, 0).is(8);
        x.source(SPLAT, 4, 1, 0).is(9);
        x.source(SPLAT, 2, 2, 0).is(10);
        x.simplify().is(9);
        standInsAre(x, 0, 1, 2, 3, 0, 5, 6, 5, 8, 9, 10);
    }
}
