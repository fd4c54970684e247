/** The boundary cases of "Promise 8: simplify"; those of the rules are in TermsRulesTest. */
public final class Promise08SimplifyTest extends Boundaries {
    public static void main(String[] args) {
        new Promise08SimplifyTest().run();
    }

    @Override
    void testAll() {
        nothingToSimplify();
        simplifiedAlready();
        stateChangesNothing();
        stateEndsByAddingOrMarking();
        stateStaysElse();
        howManyAreTheirOwn();
        anewFromWhatWasAdded();
    }

    private void nothingToSimplify() {
        sentence("Promise 8", "Answers how many values are their own STAND-INS.");
        Traced x = fresh();
        x.simplify().is(0);
        x.count(9).is(1);
        usesAre(x, 0, 0, 0, 0, 0, 0);
    }

    private void simplifiedAlready() {
        sentence("Promise 8", "Simplified already: STATE.");
        Traced empty = fresh();
        empty.simplify().is(0);
        empty.simplify().is(STATE);
        empty.simplify().is(STATE);
        Traced one = freshWithSplats(1);
        one.simplify().is(1);
        one.simplify().is(STATE);
        Traced full = freshWithSplats(MOST_VALUES);
        full.simplify().is(MOST_VALUES);
        full.simplify().is(STATE);
    }

    private void stateChangesNothing() {
        sentence("Terms", "a refused call changes nothing");
        unchanged(Unchanged.WITHOUT_VALUES.subList(1, 2), x -> x.simplify(), STATE);
        unchanged(Unchanged.WITH_VALUES.subList(2, 4), x -> x.simplify(), STATE);
        unchanged(Unchanged.WITH_ALL_VALUES.subList(1, 2), x -> x.simplify(), STATE);
    }

    private void stateEndsByAddingOrMarking() {
        sentence("Terms", "Adding or marking makes a module not simplified: all OPERATIONS are as they were added "
                + "again, every value is its own STAND-IN.");
        for (int way = 0; way < 6; way++) {
            Traced x = fresh();
            x.source(SPLAT, 2, 2, 3).is(0);
            x.operation(NEG, 0, 0, 0).is(1);
            x.source(PARAMETER, 2, 2, 0).is(2);
            x.operation(ADD, 2, 1, 0).is(3);
            x.operation(ADD, 1, 2, 0).is(4);
            x.simplify().is(4);
            operationIs(x, 1, SPLAT, -1, -1, -3, 0);
            operationIs(x, 3, ADD, 1, 2, 0, 0);
            standInsAre(x, 0, 1, 2, 3, 3);
            addOrMark(x, way);
            x.count(9).is(0);
            operationIs(x, 1, NEG, 0, -1, 0, 0);
            operationIs(x, 3, ADD, 2, 1, 0, 0);
            operationIs(x, 4, ADD, 1, 2, 0, 0);
            standInsAre(x, 0, 1, 2, 3, 4);
            x.simplify().is(way < 4 ? 5 : 4);
            standInsAre(x, 0, 1, 2, 3, 3);
            x.simplify().is(STATE);
        }
    }

    private void addOrMark(Traced x, int way) {
        switch (way) {
            case 0: x.source(SPLAT, 1, 1, 0).is(5); break;
            case 1: x.operation(DOT, 2, 2, 0).is(5); break;
            case 2: x.reshape(FLAT, 2, 4, 1).is(5); break;
            case 3: x.part(2, 1, 1, 1, 1).is(5); break;
            case 4: x.mark(4, true).is(DONE); break;
            default: x.mark(4, false).is(DONE); break;
        }
    }

    private void stateStaysElse() {
        sentence("Promise 8", "Simplified already: STATE.");
        Traced x = freshWith(2, 3);
        x.simplify().is(1);
        x.source(3, 1, 1, 0).is(REFUSED);
        x.operation(DOT, 0, 0, 0).is(SHAPE);
        x.reshape(FLAT, 0, 4, 4).is(SHAPE);
        x.part(0, 2, 0, 1, 1).is(SHAPE);
        x.mark(1, true).is(REFUSED);
        x.set(0, 0, 0, 1).is(DONE);
        x.set(4, 0, 0, 1).is(REFUSED);
        x.work().is(0);
        x.cell(0, 0, 0).is(NONE);
        x.standIn(0).is(0);
        x.value(0, 0).is(PARAMETER);
        x.count(9).is(1);
        x.simplify().is(STATE);
        Traced full = freshWithSplats(MOST_VALUES);
        full.simplify().is(MOST_VALUES);
        full.source(SPLAT, 1, 1, 0).is(FULL);
        full.operation(ADD, 0, 0, 0).is(FULL);
        full.reshape(FLAT, 0, 1, 1).is(FULL);
        full.part(0, 0, 0, 1, 1).is(FULL);
        full.simplify().is(STATE);
    }

    private void howManyAreTheirOwn() {
        sentence("Promise 8", "Answers how many values are their own STAND-INS.");
        freshWithSplats(1).simplify().is(1);
        freshWithSplats(MOST_VALUES).simplify().is(MOST_VALUES);
        Traced alike = fresh();
        for (int v = 0; v < MOST_VALUES; v++) {
            alike.source(COUNT, 4, 4, 1).is(v);
        }
        alike.simplify().is(1);
        alike.count(6).is(MOST_VALUES - 1);
        Traced chain = freshWith(3, 3);
        for (int v = 1; v < MOST_VALUES; v++) {
            chain.operation(NEG, v - 1, v - 1, 0).is(v);
        }
        chain.simplify().is(2);
        usesAre(chain, 0, 0, 0, 0, 13, 13);
    }

    private void anewFromWhatWasAdded() {
        sentence("Terms", "all OPERATIONS are as they were added again");
        Traced x = freshWith(1, 2);
        x.reshape(FLAT, 0, 2, 1).is(1);
        x.reshape(FLAT, 1, 1, 2).is(2);
        x.source(SPLAT, 1, 2, 0).is(3);
        x.operation(MUL, 3, 2, 0).is(4);
        for (int round = 0; round < 3; round++) {
            x.simplify().is(3);
            usesAre(x, 0, 0, 1, 0, 1, 1);
            standInsAre(x, 0, 1, 0, 3, 3);
            operationIs(x, 4, SPLAT, -1, -1, 0, 0);
            x.mark(4, round == 0).is(DONE);
            operationIs(x, 4, MUL, 3, 2, 0, 0);
            operationIs(x, 2, FLAT, 1, -1, 0, 0);
        }
    }
}
