/** The boundary cases of "Promise 13: count". */
public final class Promise13CountTest extends Boundaries {
    public static void main(String[] args) {
        new Promise13CountTest().run();
    }

    @Override
    void testAll() {
        questionsOut();
        noneSimplified();
        latestSimplifying();
        addingAndMarkingLeaveIt();
        values();
        liveOnes();
        workOfLiveOnes();
        simplifiedOrNot();
    }

    private void questionsOut() {
        sentence("Promise 13", "rule r (1 .. 6)");
        for (int r : new int[] {-1, 10, 11, LEAST, MOST}) {
            refusedEverywhere(x -> x.count(r));
        }
        fresh().count(0).is(0);
        fresh().count(9).is(0);
    }

    private void noneSimplified() {
        sentence("Promise 13", "0 if there was none");
        Traced x = freshWith(2, 2);
        x.operation(MAX, 0, 0, 0).is(1);
        x.operation(NEG, 0, 0, 0).is(2);
        x.operation(NEG, 2, 2, 0).is(3);
        x.mark(3, true).is(DONE);
        x.work().is(8);
        usesAre(x, 0, 0, 0, 0, 0, 0);
    }

    /** Each rule as often as another number, to tell them apart. */
    private Traced withUsesOfAll() {
        Traced x = freshWith(1, 2);
        x.source(SPLAT, 1, 2, 0).is(1);
        x.source(SPLAT, 1, 2, 1).is(2);
        x.operation(NEG, 2, 2, 0).is(3);
        x.operation(ADD, 0, 1, 0).is(4);
        x.operation(MUL, 2, 4, 0).is(5);
        x.operation(MUL, 1, 0, 0).is(6);
        x.operation(MUL, 0, 1, 0).is(7);
        x.operation(MUL, 5, 1, 0).is(8);
        for (int v = 9; v <= 12; v++) {
            x.operation(MAX, 0, 0, 0).is(v);
        }
        x.operation(TURN, 0, 0, 0).is(13);
        for (int v = 14; v <= 18; v++) {
            x.operation(TURN, 13, 13, 0).is(v);
        }
        for (int v = 19; v <= 21; v++) {
            x.operation(TURN, 0, 0, 0).is(v);
        }
        return x;
    }

    private void latestSimplifying() {
        sentence("Promise 13", "How often rule r (1 .. 6) was used in the latest SIMPLIFYING");
        Traced x = withUsesOfAll();
        x.simplify().is(5);
        usesAre(x, 1, 2, 3, 4, 5, 6);
        x.simplify().is(STATE);
        usesAre(x, 1, 2, 3, 4, 5, 6);
        x.operation(MAX, 0, 0, 0).is(22);
        usesAre(x, 1, 2, 3, 4, 5, 6);
        x.simplify().is(5);
        usesAre(x, 1, 2, 3, 5, 5, 6);
        x.mark(0, true).is(DONE);
        x.simplify().is(5);
        usesAre(x, 1, 2, 3, 5, 5, 6);
    }

    private void addingAndMarkingLeaveIt() {
        sentence("Promise 13", "(adding and marking leave it)");
        Traced x = withUsesOfAll();
        x.simplify().is(5);
        x.mark(0, true).is(DONE);
        usesAre(x, 1, 2, 3, 4, 5, 6);
        x.mark(0, false).is(DONE);
        x.source(SPLAT, 1, 1, 0).is(22);
        x.operation(NEG, 22, 22, 0).is(23);
        x.reshape(FLAT, 0, 2, 1).is(24);
        x.part(0, 0, 1, 1, 1).is(25);
        usesAre(x, 1, 2, 3, 4, 5, 6);
        x.work().is(0);
        x.set(0, 0, 0, 1).is(DONE);
        x.source(3, 1, 1, 0).is(REFUSED);
        usesAre(x, 1, 2, 3, 4, 5, 6);
    }

    private void values() {
        sentence("Promise 13", "r 0: values");
        Traced x = fresh();
        x.count(0).is(0);
        for (int v = 0; v < MOST_VALUES; v++) {
            x.source(SPLAT, 1, 1, 0).is(v);
            x.count(0).is(v + 1);
            x.source(SPLAT, 0, 1, 0).is(REFUSED);
            x.count(0).is(v + 1);
        }
        x.source(SPLAT, 1, 1, 0).is(FULL);
        x.count(0).is(MOST_VALUES);
        x.simplify().is(1);
        x.count(0).is(MOST_VALUES);
    }

    private void liveOnes() {
        sentence("Promise 13", "7: LIVE ones");
        Traced x = freshWith(1, 1);
        for (int v = 1; v < MOST_VALUES; v++) {
            x.operation(NEG, v - 1, v - 1, 0).is(v);
        }
        x.count(7).is(0);
        x.mark(0, true).is(DONE);
        x.count(7).is(1);
        x.mark(26, true).is(DONE);
        x.count(7).is(27);
        x.mark(27, true).is(DONE);
        x.count(7).is(28);
        x.simplify().is(2);
        x.count(7).is(2);
        x.mark(27, false).is(DONE);
        x.count(7).is(27);
        x.simplify().is(2);
        x.count(7).is(1);
    }

    private void workOfLiveOnes() {
        sentence("Promise 13", "8: the sum of the WORK of LIVE ones");
        Traced x = freshWith(4, 4);
        x.operation(DOT, 0, 0, 0).is(1);
        x.operation(SUM, 1, 1, 0).is(2);
        x.operation(NEG, 0, 0, 0).is(3);
        x.count(8).is(0);
        x.mark(0, true).is(DONE);
        x.count(8).is(0);
        x.mark(2, true).is(DONE);
        x.count(8).is(80);
        x.cell(2, 0, 0).is(NONE);
        x.mark(3, true).is(DONE);
        x.count(8).is(96);
        x.work().is(96);
        x.count(8).is(96);
        x.simplify().is(4);
        x.count(8).is(96);
    }

    private void simplifiedOrNot() {
        sentence("Promise 13", "9: 1 if simplified, else 0");
        Traced x = fresh();
        x.count(9).is(0);
        x.simplify().is(0);
        x.count(9).is(1);
        x.source(SPLAT, 1, 1, 0).is(0);
        x.count(9).is(0);
        x.simplify().is(1);
        x.count(9).is(1);
        x.simplify().is(STATE);
        x.count(9).is(1);
        x.mark(1, true).is(REFUSED);
        x.count(9).is(1);
        x.mark(0, true).is(DONE);
        x.count(9).is(0);
        x.work().is(0);
        x.count(9).is(0);
    }
}
