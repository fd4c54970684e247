/** The boundary cases of "Promise 12: value". */
public final class Promise12ValueTest extends Boundaries {
    public static void main(String[] args) {
        new Promise12ValueTest().run();
    }

    @Override
    void testAll() {
        everyQuestion();
        presentOperation();
        anotherWhat();
        numberThatLooksRefused();
        valuesOut();
        noArguments();
        oneArgument();
        twoArguments();
        noNumbers();
        liveOrNot();
        beforeNeutral();
        beforeSame();
        beforeTwice();
        beforeAlike();
        ownAsItNowIs();
    }

    private void everyQuestion() {
        sentence("Promise 12", "KIND (0), rows (1), columns (2), first ARGUMENT (3), second (4)");
        Traced x = freshWith(4, 3);
        x.part(0, 3, 1, 1, 2).is(1);
        int[] answers = {PART, 1, 2, 0, -1, 3, 1, 0};
        for (int what = 0; what <= 7; what++) {
            x.value(1, what).is(answers[what]);
        }
    }

    private void presentOperation() {
        sentence("Promise 12", "Of value v's present OPERATION");
        Traced x = freshWith(3, 2);
        x.source(SPLAT, 3, 2, 4).is(1);
        x.operation(SUM, 1, 1, 1).is(2);
        x.operation(MAX, 1, 0, 0).is(3);
        for (int round = 0; round < 2; round++) {
            operationIs(x, 2, SUM, 1, -1, 1, 0);
            operationIs(x, 3, MAX, 1, 0, 0, 0);
            x.simplify().is(4);
            operationIs(x, 2, SPLAT, -1, -1, 8, 0);
            operationIs(x, 3, MAX, 0, 1, 0, 0);
            shapeIs(x, 2, 3, 1);
            shapeIs(x, 3, 3, 2);
            x.mark(2, true).is(DONE);
        }
    }

    private void anotherWhat() {
        sentence("Promise 12", "Another what: REFUSED");
        for (int what : new int[] {-1, 8, 9, LEAST, MOST}) {
            Traced x = freshWith(4, 3);
            x.part(0, 3, 1, 1, 2).is(1);
            x.value(1, what).is(REFUSED);
            refusedEverywhere(y -> y.value(0, what));
        }
        Traced x = freshWith(4, 3);
        x.mark(0, true).is(DONE);
        x.value(0, 0).is(PARAMETER);
        x.value(0, 7).is(1);
        x.value(0, 8).is(REFUSED);
    }

    private void numberThatLooksRefused() {
        sentence("Promise 12", "(p may be that too)");
        for (int p : new int[] {REFUSED, FULL, SHAPE, STATE, LEAST, MOST}) {
            Traced x = fresh();
            x.source(SPLAT, 1, 1, p).is(0);
            x.value(0, 5).is(p);
            x.value(0, 0).is(SPLAT);
        }
    }

    private void valuesOut() {
        sentence("Terms", "out of range answering REFUSED, then what is said; a refused call changes nothing.");
        for (int v : new int[] {-1, MOST_VALUES, LEAST, MOST}) {
            for (int what = -1; what <= 8; what++) {
                int w = what;
                fresh().value(v, w).is(REFUSED);
                freshWithSplats(2).value(v, w).is(REFUSED);
            }
            refusedEverywhere(x -> x.value(v, 0));
            refusedEverywhere(x -> x.value(v, 7));
        }
        refusedEverywhere(x -> x.value(x.values(), 1));
        refusedEverywhere(x -> x.value(x.values(), 8));
        Traced full = freshWithSplats(MOST_VALUES);
        full.value(0, 5).is(0);
        full.value(27, 5).is(27);
        full.value(28, 5).is(REFUSED);
    }

    private void noArguments() {
        sentence("Promise 12", "-1 each if it has none");
        for (int kind = PARAMETER; kind <= COUNT; kind++) {
            Traced x = fresh();
            x.source(kind, 1, 1, 0).is(0);
            operationIs(x, 0, kind, -1, -1, 0, 0);
            x.simplify().is(1);
            operationIs(x, 0, kind, -1, -1, 0, 0);
        }
    }

    private void oneArgument() {
        sentence("Promise 12", "first ARGUMENT (3), second (4), -1 each if it has none");
        Traced x = fresh();
        x.source(PARAMETER, 1, 4, 3).is(0);
        x.source(PARAMETER, 1, 2, 2).is(1);
        x.operation(NEG, 1, 1, 0).is(2);
        x.operation(TURN, 1, 1, 0).is(3);
        x.operation(SUM, 1, 1, 1).is(4);
        x.reshape(SPREAD, 1, 3, 2).is(5);
        x.reshape(FLAT, 1, 2, 1).is(6);
        x.part(1, 0, 1, 1, 1).is(7);
        int[] kinds = {0, 0, NEG, TURN, SUM, SPREAD, FLAT, PART};
        int[] p = {0, 0, 0, 0, 1, 0, 0, 0};
        for (int v = 2; v <= 7; v++) {
            operationIs(x, v, kinds[v], 1, -1, p[v], v == 7 ? 1 : 0);
        }
        x.simplify().is(8);
        for (int v = 2; v <= 7; v++) {
            operationIs(x, v, kinds[v], 1, -1, p[v], v == 7 ? 1 : 0);
        }
    }

    private void twoArguments() {
        sentence("Promise 12", "first ARGUMENT (3), second (4)");
        for (int kind : new int[] {ADD, MUL, MAX, DOT}) {
            Traced x = freshWith(2, 2);
            x.source(PARAMETER, 2, 2, 1).is(1);
            x.operation(kind, 1, 0, 0).is(2);
            x.operation(kind, 1, 1, 0).is(3);
            operationIs(x, 2, kind, 1, 0, 0, 0);
            operationIs(x, 3, kind, 1, 1, 0, 0);
        }
    }

    private void noNumbers() {
        sentence("Promise 12", "p (5) and q (6), 0 where the KIND has none");
        Traced x = fresh();
        x.source(PARAMETER, 4, 4, 3).is(0);
        x.source(SPLAT, 4, 4, 9).is(1);
        x.source(COUNT, 4, 4, 1).is(2);
        for (int kind = ADD; kind <= SUM; kind++) {
            x.operation(kind, 0, 0, kind == SUM ? 1 : 0).is(kind);
        }
        x.reshape(SPREAD, 0, 4, 4).is(SPREAD);
        x.reshape(FLAT, 0, 4, 4).is(FLAT);
        x.part(0, 2, 3, 1, 1).is(PART);
        int[] p = {3, 9, 1, 0, 0, 0, 0, 0, 0, 1, 0, 0, 2};
        for (int v = PARAMETER; v <= PART; v++) {
            x.value(v, 0).is(v);
            x.value(v, 5).is(p[v]);
            x.value(v, 6).is(v == PART ? 3 : 0);
        }
        Traced folded = fresh();
        folded.source(SPLAT, 4, 4, 9).is(0);
        folded.part(0, 2, 3, 1, 1).is(1);
        folded.simplify().is(2);
        operationIs(folded, 1, SPLAT, -1, -1, 9, 0);
    }

    private void liveOrNot() {
        sentence("Promise 12", "1 if LIVE, else 0 (7)");
        Traced x = freshWith(2, 2);
        x.operation(MAX, 0, 0, 0).is(1);
        x.value(0, 7).is(0);
        x.value(1, 7).is(0);
        x.mark(1, true).is(DONE);
        x.value(0, 7).is(1);
        x.value(1, 7).is(1);
        x.simplify().is(1);
        x.value(0, 7).is(1);
        x.value(1, 7).is(0);
        x.mark(1, false).is(DONE);
        x.value(0, 7).is(0);
        x.value(1, 7).is(0);
    }

    private void beforeNeutral() {
        sentence("Promise 12", "Of a value that isn't its own STAND-IN: as it was before the rule that gave it one.");
        Traced x = freshWith(2, 2);
        x.source(SPLAT, 2, 2, 0).is(1);
        x.operation(ADD, 1, 0, 0).is(2);
        x.operation(ADD, 1, 2, 0).is(3);
        x.part(3, 0, 0, 2, 2).is(4);
        x.reshape(SPREAD, 4, 2, 2).is(5);
        x.simplify().is(2);
        standInsAre(x, 0, 1, 0, 0, 0, 0);
        operationIs(x, 2, ADD, 0, 1, 0, 0);
        operationIs(x, 3, ADD, 0, 1, 0, 0);
        operationIs(x, 4, PART, 0, -1, 0, 0);
        operationIs(x, 5, SPREAD, 0, -1, 0, 0);
        shapeIs(x, 5, 2, 2);
    }

    private void beforeSame() {
        sentence("Promise 12", "Of a value that isn't its own STAND-IN: as it was before the rule that gave it one.");
        Traced x = freshWith(2, 3);
        x.operation(MAX, 0, 0, 0).is(1);
        x.operation(MAX, 1, 0, 0).is(2);
        x.simplify().is(1);
        standInsAre(x, 0, 0, 0);
        operationIs(x, 1, MAX, 0, 0, 0, 0);
        operationIs(x, 2, MAX, 0, 0, 0, 0);
        shapeIs(x, 2, 2, 3);
    }

    private void beforeTwice() {
        sentence("Promise 12", "Of a value that isn't its own STAND-IN: as it was before the rule that gave it one.");
        Traced x = freshWith(1, 4);
        x.operation(NEG, 0, 0, 0).is(1);
        x.operation(NEG, 1, 1, 0).is(2);
        x.operation(TURN, 2, 2, 0).is(3);
        x.operation(TURN, 3, 3, 0).is(4);
        x.reshape(FLAT, 4, 2, 2).is(5);
        x.reshape(FLAT, 5, 1, 4).is(6);
        x.simplify().is(4);
        standInsAre(x, 0, 1, 0, 3, 0, 5, 0);
        operationIs(x, 2, NEG, 1, -1, 0, 0);
        operationIs(x, 4, TURN, 3, -1, 0, 0);
        operationIs(x, 6, FLAT, 5, -1, 0, 0);
    }

    private void beforeAlike() {
        sentence("Promise 12", "Of a value that isn't its own STAND-IN: as it was before the rule that gave it one.");
        Traced x = freshWith(1, 4);
        x.reshape(FLAT, 0, 4, 1).is(1);
        x.reshape(FLAT, 1, 2, 2).is(2);
        x.reshape(FLAT, 2, 4, 1).is(3);
        x.source(SPLAT, 1, 1, 5).is(4);
        x.operation(NEG, 4, 4, 0).is(5);
        x.operation(NEG, 5, 5, 0).is(6);
        x.source(SPLAT, 1, 1, -5).is(7);
        x.source(SPLAT, 4, 1, 0).is(8);
        x.operation(MUL, 8, 3, 0).is(9);
        x.simplify().is(6);
        standInsAre(x, 0, 1, 2, 1, 4, 5, 4, 5, 8, 8);
        // TWICE, FOLD and ZERO made these another operation before ALIKE gave the stand-in
        operationIs(x, 3, FLAT, 0, -1, 0, 0);
        operationIs(x, 6, SPLAT, -1, -1, 5, 0);
        operationIs(x, 7, SPLAT, -1, -1, -5, 0);
        operationIs(x, 9, SPLAT, -1, -1, 0, 0);
        shapeIs(x, 9, 4, 1);
    }

    private void ownAsItNowIs() {
        sentence("Terms", "7 else it is its own STAND-IN with its OPERATION as it now is.");
        Traced x = freshWith(1, 4);
        x.reshape(FLAT, 0, 4, 1).is(1);
        x.reshape(FLAT, 1, 2, 2).is(2);
        x.operation(MAX, 0, 0, 0).is(3);
        x.operation(ADD, 3, 0, 0).is(4);
        x.source(SPLAT, 1, 4, 6).is(5);
        x.operation(SUM, 5, 5, 1).is(6);
        x.operation(MUL, 5, 3, 0).is(7);
        x.simplify().is(7);
        standInsAre(x, 0, 1, 2, 0, 4, 5, 6, 7);
        operationIs(x, 2, FLAT, 0, -1, 0, 0);
        operationIs(x, 4, ADD, 0, 0, 0, 0);
        operationIs(x, 6, SPLAT, -1, -1, 24, 0);
        operationIs(x, 7, MUL, 0, 5, 0, 0);
        shapeIs(x, 6, 1, 1);
    }
}
