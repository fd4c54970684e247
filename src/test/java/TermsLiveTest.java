/** The boundary cases of "Terms": LIVE values, the number of values, and what a refused call leaves. */
public final class TermsLiveTest extends Boundaries {
    public static void main(String[] args) {
        new TermsLiveTest().run();
    }

    @Override
    void testAll() {
        atMost28();
        eachWayToTheLast();
        liveNotSimplified();
        liveSimplified();
        liveByEitherArgument();
        liveThroughAll();
        liveOfNone();
        addingLeavesLive();
        refusedBeforeShapeBeforeFull();
        refusedRowByRow();
    }

    private void atMost28() {
        sentence("Terms", "VALUES are numbered 0, 1, .. (at most 28) in the order in which their OPERATIONS were "
                + "added");
        Traced x = freshWith(1, 1);
        for (int v = 1; v < MOST_VALUES; v++) {
            x.operation(NEG, v - 1, v - 1, 0).is(v);
            x.value(v, 3).is(v - 1);
        }
        x.operation(NEG, 27, 27, 0).is(FULL);
        x.operation(NEG, 28, 28, 0).is(REFUSED);
        x.count(0).is(28);
    }

    /** Each of the adding calls takes the last place, and then each finds none. */
    private void eachWayToTheLast() {
        sentence("Terms", "(at most 28)");
        for (int last = 0; last < 4; last++) {
            Traced x = freshWithSplats(27);
            addOne(x, last).is(27);
            for (int next = 0; next < 4; next++) {
                addOne(x, next).is(FULL);
            }
            x.count(0).is(28);
            x.value(27, 0).is(new int[] {COUNT, MAX, FLAT, PART}[last]);
            x.mark(27, true).is(DONE);
            x.simplify();
            for (int next = 0; next < 4; next++) {
                addOne(x, next).is(FULL);
            }
            x.count(9).is(1);
        }
    }

    private Traced.Answer addOne(Traced x, int way) {
        switch (way) {
            case 0: return x.source(COUNT, 4, 4, 1);
            case 1: return x.operation(MAX, 25, 26, 0);
            case 2: return x.reshape(FLAT, 26, 1, 1);
            default: return x.part(26, 0, 0, 1, 1);
        }
    }

    private void livesAre(Traced x, int... lives) {
        int sum = 0;
        for (int v = 0; v < lives.length; v++) {
            x.value(v, 7).is(lives[v]);
            sum += lives[v];
        }
        x.count(7).is(sum);
    }

    private void liveNotSimplified() {
        sentence("Terms", "Not simplified, LIVE are the MARKED ones and the ARGUMENTS of LIVE ones.");
        Traced x = freshWith(2, 2);
        x.source(SPLAT, 2, 2, 0).is(1);
        x.operation(ADD, 0, 1, 0).is(2);
        x.operation(NEG, 2, 2, 0).is(3);
        x.operation(NEG, 0, 0, 0).is(4);
        livesAre(x, 0, 0, 0, 0, 0);
        x.mark(2, true).is(DONE);
        livesAre(x, 1, 1, 1, 0, 0);
        x.mark(4, true).is(DONE);
        livesAre(x, 1, 1, 1, 0, 1);
        x.mark(2, false).is(DONE);
        livesAre(x, 1, 0, 0, 0, 1);
        x.mark(0, true).is(DONE);
        x.mark(4, false).is(DONE);
        livesAre(x, 1, 0, 0, 0, 0);
    }

    private void liveSimplified() {
        sentence("Terms", "Then the LIVE values are the STAND-INS of MARKED ones and the ARGUMENTS of LIVE ones.");
        Traced x = freshWith(2, 2);
        x.source(SPLAT, 2, 2, 0).is(1);
        x.operation(ADD, 0, 1, 0).is(2);
        x.operation(NEG, 2, 2, 0).is(3);
        x.operation(NEG, 0, 0, 0).is(4);
        x.mark(4, true).is(DONE);
        x.simplify().is(3);
        standInsAre(x, 0, 1, 0, 3, 3);
        livesAre(x, 1, 0, 0, 1, 0);
        x.mark(2, true).is(DONE);
        x.mark(4, false).is(DONE);
        livesAre(x, 1, 1, 1, 0, 0);
        x.simplify().is(3);
        livesAre(x, 1, 0, 0, 0, 0);
        x.operation(MUL, 3, 1, 0).is(5);
        x.mark(2, false).is(DONE);
        x.mark(5, true).is(DONE);
        livesAre(x, 1, 1, 1, 1, 0, 1);
        x.simplify().is(3);
        livesAre(x, 0, 1, 0, 0, 0, 0);
    }

    private void liveByEitherArgument() {
        sentence("Terms", "the ARGUMENTS of LIVE ones");
        for (int kind : new int[] {ADD, MUL, MAX, DOT}) {
            Traced x = freshWith(2, 2);
            x.source(PARAMETER, 2, 2, 1).is(1);
            x.source(PARAMETER, 2, 2, 2).is(2);
            x.operation(kind, 2, 1, 0).is(3);
            x.mark(3, true).is(DONE);
            livesAre(x, 0, 1, 1, 1);
            x.simplify().is(4);
            livesAre(x, 0, 1, 1, 1);
        }
        Traced one = freshWith(2, 2);
        one.source(PARAMETER, 2, 2, 1).is(1);
        one.operation(NEG, 1, 1, 0).is(2);
        one.operation(TURN, 2, 2, 0).is(3);
        one.operation(SUM, 3, 3, 0).is(4);
        one.reshape(SPREAD, 4, 4, 2).is(5);
        one.reshape(FLAT, 5, 2, 4).is(6);
        one.part(6, 1, 1, 1, 1).is(7);
        one.mark(7, true).is(DONE);
        livesAre(one, 0, 1, 1, 1, 1, 1, 1, 1);
        one.simplify().is(8);
        livesAre(one, 0, 1, 1, 1, 1, 1, 1, 1);
    }

    private void liveThroughAll() {
        sentence("Terms", "the ARGUMENTS of LIVE ones");
        Traced x = freshWith(4, 4);
        for (int v = 1; v < MOST_VALUES; v++) {
            x.operation(DOT, v - 1, 0, 0).is(v);
        }
        x.mark(27, true).is(DONE);
        x.count(7).is(28);
        x.simplify().is(28);
        x.count(7).is(28);
        x.value(0, 7).is(1);
        x.value(27, 7).is(1);
        x.work().is(27 * 64);
    }

    private void liveOfNone() {
        sentence("Terms", "MARKED values are the module's results; none at first.");
        Traced x = freshWith(2, 2);
        x.operation(NEG, 0, 0, 0).is(1);
        x.simplify().is(2);
        livesAre(x, 0, 0);
        x.count(8).is(0);
        x.work().is(0);
    }

    private void addingLeavesLive() {
        sentence("Terms", "Not simplified, LIVE are the MARKED ones and the ARGUMENTS of LIVE ones.");
        Traced x = freshWith(2, 2);
        x.operation(MAX, 0, 0, 0).is(1);
        x.mark(1, true).is(DONE);
        x.simplify().is(1);
        livesAre(x, 1, 0);
        x.operation(NEG, 1, 1, 0).is(2);
        livesAre(x, 1, 1, 0);
        x.simplify().is(2);
        livesAre(x, 1, 0, 0);
    }

    private void refusedBeforeShapeBeforeFull() {
        sentence("Terms", "Every call first tests its arguments in their order, out of range answering REFUSED, "
                + "then what is said");
        Traced x = freshWith(2, 3);
        x.operation(DOT, 0, 0, 1).is(REFUSED);
        x.operation(DOT, 0, 0, 0).is(SHAPE);
        x.reshape(FLAT, 0, 5, 4).is(REFUSED);
        x.reshape(FLAT, 0, 4, 4).is(SHAPE);
        x.part(0, 3, 3, 4, 5).is(REFUSED);
        x.part(0, 3, 3, 4, 4).is(SHAPE);
        while (x.values() < MOST_VALUES) {
            x.source(SPLAT, 1, 1, 0);
        }
        x.source(SPLAT, 1, 5, 0).is(REFUSED);
        x.source(SPLAT, 1, 4, 0).is(FULL);
        x.operation(DOT, 0, 0, 1).is(REFUSED);
        x.operation(DOT, 0, 0, 0).is(SHAPE);
        x.operation(NEG, 0, 0, 0).is(FULL);
        x.reshape(FLAT, 0, 5, 4).is(REFUSED);
        x.reshape(FLAT, 0, 4, 4).is(SHAPE);
        x.reshape(FLAT, 0, 3, 2).is(FULL);
        x.part(0, 3, 3, 4, 5).is(REFUSED);
        x.part(0, 3, 3, 4, 4).is(SHAPE);
        x.part(0, 1, 2, 1, 1).is(FULL);
    }

    /** Many refused calls, one after another, change as little as one. */
    private void refusedRowByRow() {
        sentence("Terms", "a refused call changes nothing");
        Unchanged.Call row = x -> {
            x.source(SPLAT, 0, 1, 0).is(REFUSED);
            x.operation(ADD, 0, x.values(), 0).is(REFUSED);
            x.operation(DOT, 0, 0, 0).is(SHAPE);
            x.reshape(SPREAD, 0, 1, 1).is(SHAPE);
            x.part(0, 1, 1, 2, 3).is(SHAPE);
            x.mark(x.values(), true).is(REFUSED);
            x.set(0, 0, 4, 9).is(REFUSED);
            x.standIn(-1).is(REFUSED);
            x.value(0, 8).is(REFUSED);
            return x.count(10);
        };
        unchanged(Unchanged.WITH_VALUES, row, REFUSED);
        unchanged(Unchanged.WITH_ALL_VALUES, row, REFUSED);
    }
}
