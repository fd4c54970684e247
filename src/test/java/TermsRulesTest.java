/** The boundary cases of "Terms": what each rule of SIMPLIFYING just fits, and just doesn't. */
public final class TermsRulesTest extends Boundaries {
    public static void main(String[] args) {
        new TermsRulesTest().run();
    }

    @Override
    void testAll() {
        inOrder();
        argumentsAreReplaced();
        placesChange();
        foldNeedsArguments();
        foldNeedsAllSplats();
        foldOfEveryKind();
        foldOfOneAndOfFour();
        foldByThePresentOperation();
        otherRulesByThePresentOperation();
        neutralOfAdd();
        neutralOfMul();
        neutralOfNoOther();
        neutralOfReshaping();
        zero();
        zeroOfNoOther();
        same();
        sameOfNoOther();
        twice();
        twiceOfNoOther();
        twiceFlat();
        alikeInAll();
        alikeInKind();
        alikeInArguments();
        alikeInNumbers();
        alikeInShape();
        alikeNow();
        alikeTheLeast();
        alikeAfterAnotherRule();
        firstThatFits();
        countedByItsRule();
    }

    /** 0 and 1 are PARAMETERS that differ, both of 2 rows and columns. */
    private Traced withTwo() {
        Traced x = fresh();
        x.source(PARAMETER, 2, 2, 0).is(0);
        x.source(PARAMETER, 2, 2, 1).is(1);
        return x;
    }

    private void inOrder() {
        sentence("Terms", "SIMPLIFYING goes through the values in order");
        // each value fits its rule only because the one before has been simplified already
        Traced x = withTwo();
        x.source(SPLAT, 2, 2, 1).is(2);
        x.operation(NEG, 2, 2, 0).is(3);
        x.operation(ADD, 3, 2, 0).is(4);
        x.operation(MUL, 0, 4, 0).is(5);
        x.operation(ADD, 1, 5, 0).is(6);
        x.operation(MAX, 1, 6, 0).is(7);
        x.operation(TURN, 7, 7, 0).is(8);
        x.operation(TURN, 1, 1, 0).is(9);
        x.simplify().is(6);
        usesAre(x, 2, 1, 1, 1, 0, 2);
        standInsAre(x, 0, 1, 2, 3, 4, 4, 1, 1, 8, 8);
        // what comes later is of no use to what came before
        Traced late = withTwo();
        late.operation(ADD, 0, 1, 0).is(2);
        late.source(SPLAT, 2, 2, 0).is(3);
        late.operation(MUL, 1, 3, 0).is(4);
        late.operation(ADD, 0, 4, 0).is(5);
        late.operation(ADD, 1, 5, 0).is(6);
        late.simplify().is(4);
        standInsAre(late, 0, 1, 2, 3, 3, 0, 2);
        usesAre(late, 0, 1, 1, 0, 0, 2);
    }

    private void argumentsAreReplaced() {
        sentence("Terms", "The ARGUMENTS are first replaced by their STAND-INS");
        Traced x = withTwo();
        x.operation(MAX, 1, 1, 0).is(2);
        x.operation(NEG, 2, 2, 0).is(3);
        x.operation(DOT, 2, 0, 0).is(4);
        x.operation(DOT, 0, 2, 0).is(5);
        x.part(2, 0, 0, 1, 1).is(6);
        x.simplify().is(6);
        operationIs(x, 3, NEG, 1, -1, 0, 0);
        operationIs(x, 4, DOT, 1, 0, 0, 0);
        operationIs(x, 5, DOT, 0, 1, 0, 0);
        operationIs(x, 6, PART, 1, -1, 0, 0);
    }

    private void placesChange() {
        sentence("Terms", "of ADD, MUL, MAX then, if the first has a greater number than the second, they change "
                + "places.");
        for (int kind = ADD; kind <= MAX; kind++) {
            Traced x = withTwo();
            x.operation(kind, 1, 0, 0).is(2);
            x.operation(kind, 0, 1, 0).is(3);
            x.operation(NEG, 0, 0, 0).is(4);
            x.operation(NEG, 4, 4, 0).is(5);
            x.operation(kind, 1, 5, 0).is(6);
            x.operation(kind, 4, 2, 0).is(7);
            x.simplify().is(5);
            operationIs(x, 2, kind, 0, 1, 0, 0);
            operationIs(x, 3, kind, 0, 1, 0, 0);
            operationIs(x, 6, kind, 0, 1, 0, 0);
            operationIs(x, 7, kind, 2, 4, 0, 0);
            standInsAre(x, 0, 1, 2, 2, 4, 0, 2, 7);
        }
        Traced equal = withTwo();
        equal.operation(ADD, 1, 1, 0).is(2);
        equal.operation(MUL, 1, 1, 0).is(3);
        equal.operation(DOT, 1, 0, 0).is(4);
        equal.operation(DOT, 0, 1, 0).is(5);
        equal.simplify().is(6);
        operationIs(equal, 2, ADD, 1, 1, 0, 0);
        operationIs(equal, 3, MUL, 1, 1, 0, 0);
        operationIs(equal, 4, DOT, 1, 0, 0, 0);
        operationIs(equal, 5, DOT, 0, 1, 0, 0);
    }

    private void foldNeedsArguments() {
        sentence("Terms", "1 FOLD: it has ARGUMENTS");
        Traced x = fresh();
        x.source(SPLAT, 1, 1, 5).is(0);
        x.source(COUNT, 1, 1, 0).is(1);
        x.source(PARAMETER, 1, 1, 0).is(2);
        x.simplify().is(3);
        usesAre(x, 0, 0, 0, 0, 0, 0);
    }

    private void foldNeedsAllSplats() {
        sentence("Terms", "1 FOLD: it has ARGUMENTS and all are SPLATS");
        for (int kind : new int[] {ADD, MUL, MAX, DOT}) {
            Traced x = freshWith(2, 2);
            x.source(SPLAT, 2, 2, 7).is(1);
            x.source(SPLAT, 2, 2, 9).is(2);
            x.operation(kind, 0, 1, 0).is(3);
            x.operation(kind, 2, 0, 0).is(4);
            x.simplify().is(5);
            usesAre(x, 0, 0, 0, 0, 0, 0);
            x.operation(kind, 1, 2, 0).is(5);
            x.simplify().is(kind == MAX ? 5 : 6);
            usesAre(x, 1, 0, 0, 0, 0, kind == MAX ? 1 : 0);
            x.value(5, 0).is(SPLAT);
        }
        Traced count = fresh();
        count.source(COUNT, 1, 1, 0).is(0);
        count.operation(NEG, 0, 0, 0).is(1);
        count.operation(SUM, 0, 0, 0).is(2);
        count.reshape(SPREAD, 0, 2, 2).is(3);
        count.simplify().is(4);
        usesAre(count, 0, 0, 0, 0, 0, 0);
    }

    private void foldOfEveryKind() {
        sentence("Terms", "it becomes the SPLAT of what each of its cells then is");
        Traced x = fresh();
        x.source(SPLAT, 2, 3, 7).is(0);
        x.source(SPLAT, 2, 3, -4).is(1);
        x.source(SPLAT, 3, 4, 10).is(2);
        x.operation(ADD, 0, 1, 0).is(3);
        x.operation(MUL, 0, 1, 0).is(4);
        x.operation(MAX, 1, 0, 0).is(5);
        x.operation(NEG, 0, 0, 0).is(6);
        x.operation(TURN, 0, 0, 0).is(7);
        x.operation(DOT, 0, 2, 0).is(8);
        x.operation(SUM, 0, 0, 0).is(9);
        x.operation(SUM, 0, 0, 1).is(10);
        x.reshape(SPREAD, 9, 4, 3).is(11);
        x.reshape(FLAT, 1, 3, 2).is(12);
        x.part(0, 1, 2, 1, 1).is(13);
        int[] cells = {7, -4, 10, 3, -28, 7, -7, 7, 210, 14, 21, 14, -4, 7};
        int[][] shapes = {{2, 3}, {2, 3}, {3, 4}, {2, 3}, {2, 3}, {2, 3}, {2, 3}, {3, 2}, {2, 4}, {1, 3}, {2, 1},
            {4, 3}, {3, 2}, {1, 1}};
        x.simplify().is(13);
        usesAre(x, 11, 0, 0, 0, 0, 1);
        for (int v = 0; v <= 13; v++) {
            operationIs(x, v, SPLAT, -1, -1, cells[v], 0);
            shapeIs(x, v, shapes[v][0], shapes[v][1]);
            x.standIn(v).is(v == 5 ? 0 : v);
        }
    }

    private void foldOfOneAndOfFour() {
        sentence("Terms", "it becomes the SPLAT of what each of its cells then is");
        for (int inner = 1; inner <= 4; inner++) {
            Traced x = fresh();
            x.source(SPLAT, 1, inner, 5).is(0);
            x.source(SPLAT, inner, 4, 3).is(1);
            x.operation(DOT, 0, 1, 0).is(2);
            x.operation(SUM, 0, 0, 1).is(3);
            x.operation(SUM, 1, 1, 0).is(4);
            x.operation(SUM, 0, 0, 0).is(5);
            x.simplify();
            x.value(2, 5).is(15 * inner);
            x.value(3, 5).is(5 * inner);
            x.value(4, 5).is(3 * inner);
            x.value(5, 5).is(5);
            x.count(1).is(4);
        }
    }

    private void foldByThePresentOperation() {
        sentence("Terms", "(\"is SPLAT c\" meaning the ARGUMENT's present OPERATION)");
        Traced x = freshWith(1, 2);
        x.source(SPLAT, 1, 2, 0).is(1);
        x.operation(MUL, 0, 1, 0).is(2);
        x.operation(SUM, 2, 2, 1).is(3);
        x.operation(NEG, 3, 3, 0).is(4);
        x.operation(ADD, 0, 2, 0).is(5);
        x.simplify().is(3);
        usesAre(x, 2, 1, 1, 0, 0, 2);
        standInsAre(x, 0, 1, 1, 3, 3, 0);
        operationIs(x, 3, SPLAT, -1, -1, 0, 0);
        operationIs(x, 4, SPLAT, -1, -1, 0, 0);
    }

    /** None of the arguments was added as a SPLAT, but each is one now. */
    private void otherRulesByThePresentOperation() {
        sentence("Terms", "(\"is SPLAT c\" meaning the ARGUMENT's present OPERATION)");
        Traced x = freshWith(1, 2);
        x.source(SPLAT, 1, 1, 0).is(1);
        x.source(SPLAT, 1, 1, 1).is(2);
        x.reshape(SPREAD, 1, 1, 2).is(3);
        x.reshape(SPREAD, 2, 1, 2).is(4);
        x.operation(ADD, 0, 3, 0).is(5);
        x.operation(MUL, 0, 4, 0).is(6);
        x.operation(MUL, 0, 3, 0).is(7);
        x.operation(ADD, 3, 4, 0).is(8);
        x.source(SPLAT, 1, 2, 9).is(9);
        x.operation(ADD, 9, 4, 0).is(10);
        x.operation(MUL, 0, 9, 0).is(11);
        x.simplify().is(8);
        usesAre(x, 4, 2, 1, 0, 0, 2);
        standInsAre(x, 0, 1, 2, 3, 4, 0, 0, 3, 4, 9, 10, 11);
        operationIs(x, 10, SPLAT, -1, -1, 10, 0);
    }

    private void neutralOfAdd() {
        sentence("Terms", "2 NEUTRAL: ADD with an ARGUMENT that is SPLAT 0");
        for (int p : new int[] {-1, 0, 1, LEAST, MOST}) {
            boolean neutral = p == 0;
            Traced x = withTwo();
            x.source(SPLAT, 2, 2, p).is(2);
            x.operation(ADD, 1, 2, 0).is(3);
            x.operation(NEG, 1, 1, 0).is(4);
            x.operation(ADD, 2, 4, 0).is(5);
            x.simplify().is(neutral ? 4 : 6);
            usesAre(x, 0, neutral ? 2 : 0, 0, 0, 0, 0);
            x.standIn(3).is(neutral ? 1 : 3);
            x.standIn(5).is(neutral ? 4 : 5);
        }
    }

    private void neutralOfMul() {
        sentence("Terms", "MUL with one that is SPLAT 1: its STAND-IN is the other one.");
        for (int p : new int[] {-1, 1, 2, LEAST, MOST}) {
            boolean neutral = p == 1;
            Traced x = withTwo();
            x.source(SPLAT, 2, 2, p).is(2);
            x.operation(MUL, 1, 2, 0).is(3);
            x.operation(NEG, 1, 1, 0).is(4);
            x.operation(MUL, 2, 4, 0).is(5);
            x.simplify().is(neutral ? 4 : 6);
            usesAre(x, 0, neutral ? 2 : 0, 0, 0, 0, 0);
            x.standIn(3).is(neutral ? 1 : 3);
            x.standIn(5).is(neutral ? 4 : 5);
        }
    }

    private void neutralOfNoOther() {
        sentence("Terms", "2 NEUTRAL: ADD with an ARGUMENT that is SPLAT 0, MUL with one that is SPLAT 1");
        for (int p = 0; p <= 1; p++) {
            Traced x = freshWith(2, 2);
            x.source(SPLAT, 2, 2, p).is(1);
            x.operation(MAX, 0, 1, 0).is(2);
            x.operation(DOT, 0, 1, 0).is(3);
            x.operation(DOT, 1, 0, 0).is(4);
            x.simplify().is(5);
            usesAre(x, 0, 0, 0, 0, 0, 0);
        }
        // a COUNT and a PARAMETER whose cells are all 0 are no SPLATS
        Traced x = withTwo();
        x.source(COUNT, 1, 1, 0).is(2);
        x.source(PARAMETER, 1, 1, 3).is(3);
        x.operation(ADD, 2, 3, 0).is(4);
        x.operation(MUL, 2, 3, 0).is(5);
        x.source(COUNT, 2, 2, 1).is(6);
        x.operation(ADD, 0, 6, 0).is(7);
        x.operation(MUL, 0, 6, 0).is(8);
        x.simplify().is(9);
        usesAre(x, 0, 0, 0, 0, 0, 0);
    }

    private void neutralOfReshaping() {
        sentence("Terms", "SPREAD, FLAT or PART that has its ARGUMENT's SHAPE: its STAND-IN is that.");
        int[][] shapes = {{1, 1}, {1, 4}, {4, 1}, {2, 3}, {4, 4}};
        for (int[] s : shapes) {
            Traced x = freshWith(s[0], s[1]);
            x.reshape(SPREAD, 0, s[0], s[1]).is(1);
            x.reshape(FLAT, 0, s[0], s[1]).is(2);
            x.part(0, 0, 0, s[0], s[1]).is(3);
            x.simplify().is(1);
            usesAre(x, 0, 3, 0, 0, 0, 0);
            standInsAre(x, 0, 0, 0, 0);
        }
        Traced other = freshWith(1, 3);
        other.reshape(SPREAD, 0, 2, 3).is(1);
        other.reshape(FLAT, 0, 3, 1).is(2);
        other.part(0, 0, 0, 1, 2).is(3);
        other.part(2, 0, 0, 2, 1).is(4);
        other.reshape(SPREAD, 2, 3, 2).is(5);
        other.operation(SUM, 0, 0, 0).is(6);
        other.operation(NEG, 0, 0, 0).is(7);
        other.simplify().is(8);
        usesAre(other, 0, 0, 0, 0, 0, 0);
    }

    private void zero() {
        sentence("Terms", "3 ZERO: MUL with an ARGUMENT that is SPLAT 0: it becomes SPLAT 0.");
        for (int p : new int[] {-1, 0, 2, LEAST}) {
            boolean zero = p == 0;
            Traced x = freshWith(2, 3);
            x.source(SPLAT, 2, 3, p).is(1);
            x.operation(MUL, 0, 1, 0).is(2);
            x.source(PARAMETER, 2, 3, 1).is(3);
            x.operation(MUL, 1, 3, 0).is(4);
            x.mark(2, true).is(DONE);
            x.simplify().is(zero ? 3 : 5);
            usesAre(x, 0, 0, zero ? 2 : 0, 0, 0, zero ? 2 : 0);
            standInsAre(x, 0, 1, zero ? 1 : 2, 3, zero ? 1 : 4);
            operationIs(x, 2, zero ? SPLAT : MUL, zero ? -1 : 0, zero ? -1 : 1, 0, 0);
            shapeIs(x, 2, 2, 3);
            x.count(7).is(zero ? 1 : 3);
        }
    }

    private void zeroOfNoOther() {
        sentence("Terms", "3 ZERO: MUL with an ARGUMENT that is SPLAT 0");
        Traced x = freshWith(2, 2);
        x.source(SPLAT, 2, 2, 0).is(1);
        x.operation(DOT, 0, 1, 0).is(2);
        x.operation(DOT, 1, 0, 0).is(3);
        x.operation(MAX, 0, 1, 0).is(4);
        x.operation(MUL, 0, 0, 0).is(5);
        x.simplify().is(6);
        usesAre(x, 0, 0, 0, 0, 0, 0);
    }

    private void same() {
        sentence("Terms", "4 SAME: MAX of twice the same: its STAND-IN is that.");
        Traced x = withTwo();
        x.operation(MAX, 1, 1, 0).is(2);
        x.operation(MAX, 2, 1, 0).is(3);
        x.operation(MAX, 0, 1, 0).is(4);
        x.operation(MAX, 4, 4, 0).is(5);
        x.simplify().is(3);
        usesAre(x, 0, 0, 0, 3, 0, 0);
        standInsAre(x, 0, 1, 1, 1, 4, 4);
    }

    private void sameOfNoOther() {
        sentence("Terms", "4 SAME: MAX of twice the same");
        Traced x = withTwo();
        x.operation(ADD, 0, 0, 0).is(2);
        x.operation(MUL, 0, 0, 0).is(3);
        x.operation(DOT, 0, 0, 0).is(4);
        x.operation(MAX, 0, 1, 0).is(5);
        x.simplify().is(6);
        usesAre(x, 0, 0, 0, 0, 0, 0);
    }

    private void twice() {
        sentence("Terms", "5 TWICE: NEG of a NEG, TURN of a TURN: its STAND-IN is the inner one's ARGUMENT.");
        for (int kind : new int[] {NEG, TURN}) {
            Traced x = freshWith(2, 3);
            x.operation(NEG, 0, 0, 0).is(1);
            x.operation(kind, 1, 1, 0).is(2);
            x.operation(kind, 2, 2, 0).is(3);
            x.operation(kind, 3, 3, 0).is(4);
            x.simplify().is(kind == NEG ? 2 : 3);
            usesAre(x, 0, 0, 0, 0, kind == NEG ? 2 : 1, 1);
            if (kind == NEG) {
                standInsAre(x, 0, 1, 0, 1, 0);
            } else {
                standInsAre(x, 0, 1, 2, 1, 2);
            }
        }
    }

    private void twiceOfNoOther() {
        sentence("Terms", "5 TWICE: NEG of a NEG, TURN of a TURN");
        Traced x = freshWith(4, 4);
        x.operation(NEG, 0, 0, 0).is(1);
        x.operation(TURN, 1, 1, 0).is(2);
        x.operation(NEG, 2, 2, 0).is(3);
        x.operation(SUM, 0, 0, 0).is(4);
        x.operation(SUM, 4, 4, 0).is(5);
        x.part(0, 0, 0, 3, 3).is(6);
        x.part(6, 0, 0, 2, 2).is(7);
        x.part(7, 1, 1, 1, 1).is(8);
        x.reshape(SPREAD, 8, 1, 2).is(9);
        x.reshape(SPREAD, 9, 2, 2).is(10);
        x.reshape(FLAT, 7, 1, 4).is(11);
        x.operation(TURN, 11, 11, 0).is(12);
        x.reshape(FLAT, 12, 2, 2).is(13);
        x.simplify().is(14);
        usesAre(x, 0, 0, 0, 0, 0, 0);
    }

    private void twiceFlat() {
        sentence("Terms", "FLAT of a FLAT: it becomes FLAT of the inner one's ARGUMENT (or, if that has its SHAPE, "
                + "has that as STAND-IN).");
        Traced x = freshWith(1, 4);
        x.reshape(FLAT, 0, 2, 2).is(1);
        x.reshape(FLAT, 1, 4, 1).is(2);
        x.reshape(FLAT, 2, 2, 2).is(3);
        x.reshape(FLAT, 2, 1, 4).is(4);
        x.reshape(FLAT, 1, 1, 4).is(5);
        x.reshape(FLAT, 3, 4, 1).is(6);
        x.mark(2, true).is(DONE);
        x.simplify().is(3);
        usesAre(x, 0, 0, 0, 0, 5, 2);
        standInsAre(x, 0, 1, 2, 1, 0, 0, 2);
        operationIs(x, 2, FLAT, 0, -1, 0, 0);
        shapeIs(x, 2, 4, 1);
        operationIs(x, 3, FLAT, 0, -1, 0, 0);
        operationIs(x, 4, FLAT, 2, -1, 0, 0);
        x.value(1, 7).is(0);
        x.count(7).is(2);
        x.count(8).is(4);
    }

    private void alikeInAll() {
        sentence("Terms", "6 ALIKE: an earlier value that is its own STAND-IN has, now, the same KIND, ARGUMENTS, "
                + "NUMBERS (p and q where the KIND uses them) and SHAPE");
        Traced x = fresh();
        for (int round = 0; round < 2; round++) {
            int v = x.values();
            x.source(PARAMETER, 4, 4, 3).is(v);
            x.source(COUNT, 4, 4, 1).is(v + 1);
            x.source(SPLAT, 4, 4, 9).is(v + 2);
            x.operation(ADD, v, v + 1, 0).is(v + 3);
            x.operation(MUL, v, v + 1, 0).is(v + 4);
            x.operation(MAX, v, v + 1, 0).is(v + 5);
            x.operation(NEG, v, v, 0).is(v + 6);
            x.operation(TURN, v, v, 0).is(v + 7);
            x.operation(DOT, v, v + 1, 0).is(v + 8);
            x.operation(SUM, v, v, 0).is(v + 9);
            x.operation(SUM, v, v, 1).is(v + 10);
            x.reshape(SPREAD, v + 9, 2, 4).is(v + 11);
            x.reshape(FLAT, v + 9, 2, 2).is(v + 12);
            x.part(v, 1, 2, 3, 2).is(v + 13);
        }
        x.simplify().is(14);
        usesAre(x, 0, 0, 0, 0, 0, 14);
        for (int v = 0; v < MOST_VALUES; v++) {
            x.standIn(v).is(v % 14);
        }
    }

    private void alikeInKind() {
        sentence("Terms", "the same KIND");
        Traced x = freshWith(1, 1);
        x.source(COUNT, 1, 1, 0).is(1);
        x.source(SPLAT, 1, 1, 0).is(2);
        x.operation(ADD, 0, 1, 0).is(3);
        x.operation(MUL, 0, 1, 0).is(4);
        x.operation(MAX, 0, 1, 0).is(5);
        x.operation(DOT, 0, 1, 0).is(6);
        x.operation(NEG, 0, 0, 0).is(7);
        x.operation(TURN, 0, 0, 0).is(8);
        x.operation(SUM, 0, 0, 0).is(9);
        x.source(PARAMETER, 1, 4, 0).is(10);
        x.operation(TURN, 10, 10, 0).is(11);
        x.reshape(FLAT, 10, 4, 1).is(12);
        x.operation(SUM, 10, 10, 1).is(13);
        x.part(10, 0, 0, 1, 1).is(14);
        x.simplify().is(15);
        usesAre(x, 0, 0, 0, 0, 0, 0);
    }

    private void alikeInArguments() {
        sentence("Terms", "the same KIND, ARGUMENTS");
        Traced x = withTwo();
        x.source(PARAMETER, 2, 2, 2).is(2);
        x.operation(ADD, 0, 1, 0).is(3);
        x.operation(ADD, 0, 2, 0).is(4);
        x.operation(ADD, 1, 2, 0).is(5);
        x.operation(ADD, 0, 0, 0).is(6);
        x.operation(DOT, 0, 1, 0).is(7);
        x.operation(DOT, 1, 0, 0).is(8);
        x.operation(NEG, 0, 0, 0).is(9);
        x.operation(NEG, 1, 1, 0).is(10);
        x.operation(SUM, 0, 0, 0).is(11);
        x.operation(SUM, 1, 1, 0).is(12);
        x.part(0, 0, 0, 1, 1).is(13);
        x.part(1, 0, 0, 1, 1).is(14);
        x.reshape(FLAT, 0, 1, 4).is(15);
        x.reshape(FLAT, 1, 1, 4).is(16);
        x.simplify().is(17);
        usesAre(x, 0, 0, 0, 0, 0, 0);
        x.operation(ADD, 2, 1, 0).is(17);
        x.operation(DOT, 1, 0, 0).is(18);
        x.simplify().is(17);
        usesAre(x, 0, 0, 0, 0, 0, 2);
        x.standIn(17).is(5);
        x.standIn(18).is(8);
    }

    private void alikeInNumbers() {
        sentence("Terms", "NUMBERS (p and q where the KIND uses them)");
        Traced x = freshWith(2, 2);
        for (int p = 1; p <= 3; p++) {
            x.source(PARAMETER, 2, 2, p).is(p);
        }
        x.source(COUNT, 2, 2, 0).is(4);
        x.source(COUNT, 2, 2, 1).is(5);
        x.source(SPLAT, 2, 2, 0).is(6);
        x.source(SPLAT, 2, 2, 1).is(7);
        x.source(SPLAT, 2, 2, -1).is(8);
        x.source(PARAMETER, 1, 1, 0).is(9);
        x.operation(SUM, 9, 9, 0).is(10);
        x.operation(SUM, 9, 9, 1).is(11);
        x.part(0, 0, 0, 1, 1).is(12);
        x.part(0, 0, 1, 1, 1).is(13);
        x.part(0, 1, 0, 1, 1).is(14);
        x.part(0, 1, 1, 1, 1).is(15);
        x.simplify().is(16);
        usesAre(x, 0, 0, 0, 0, 0, 0);
    }

    private void alikeInShape() {
        sentence("Terms", "the same KIND, ARGUMENTS, NUMBERS (p and q where the KIND uses them) and SHAPE");
        for (int kind = PARAMETER; kind <= COUNT; kind++) {
            Traced x = fresh();
            for (int shape = 0; shape < 16; shape++) {
                x.source(kind, 1 + shape / 4, 1 + shape % 4, 1).is(shape);
            }
            x.simplify().is(16);
            usesAre(x, 0, 0, 0, 0, 0, 0);
        }
        Traced x = freshWith(1, 1);
        x.reshape(SPREAD, 0, 1, 2).is(1);
        x.reshape(SPREAD, 0, 2, 1).is(2);
        x.reshape(SPREAD, 0, 2, 2).is(3);
        x.source(PARAMETER, 2, 2, 0).is(4);
        x.reshape(FLAT, 4, 1, 4).is(5);
        x.reshape(FLAT, 4, 4, 1).is(6);
        x.part(4, 0, 0, 1, 1).is(7);
        x.part(4, 0, 0, 1, 2).is(8);
        x.part(4, 0, 0, 2, 1).is(9);
        x.simplify().is(10);
        usesAre(x, 0, 0, 0, 0, 0, 0);
    }

    private void alikeNow() {
        sentence("Terms", "6 ALIKE: an earlier value that is its own STAND-IN has, now");
        Traced x = freshWith(1, 2);
        x.source(SPLAT, 1, 2, 4).is(1);
        x.operation(NEG, 1, 1, 0).is(2);
        x.source(SPLAT, 1, 2, -4).is(3);
        x.operation(NEG, 1, 1, 0).is(4);
        x.operation(ADD, 2, 0, 0).is(5);
        x.operation(ADD, 0, 3, 0).is(6);
        x.simplify().is(4);
        usesAre(x, 2, 0, 0, 0, 0, 3);
        standInsAre(x, 0, 1, 2, 2, 2, 5, 5);
    }

    private void alikeTheLeast() {
        sentence("Terms", "the least such is its STAND-IN");
        Traced x = freshWith(2, 2);
        for (int v = 1; v <= 4; v++) {
            x.operation(NEG, 0, 0, 0).is(v);
        }
        x.simplify().is(2);
        standInsAre(x, 0, 1, 1, 1, 1);
        x.count(6).is(3);
    }

    private void alikeAfterAnotherRule() {
        sentence("Terms", "Also tried after a rule made it another OPERATION, and for values without ARGUMENTS.");
        Traced fold = fresh();
        fold.source(SPLAT, 1, 1, 3).is(0);
        fold.operation(TURN, 0, 0, 0).is(1);
        fold.simplify().is(1);
        usesAre(fold, 1, 0, 0, 0, 0, 1);
        Traced zero = freshWith(1, 1);
        zero.source(SPLAT, 1, 1, 0).is(1);
        zero.operation(MUL, 0, 1, 0).is(2);
        zero.simplify().is(2);
        usesAre(zero, 0, 0, 1, 0, 0, 1);
        Traced twice = freshWith(1, 4);
        twice.reshape(FLAT, 0, 4, 1).is(1);
        twice.reshape(FLAT, 0, 2, 2).is(2);
        twice.reshape(FLAT, 1, 2, 2).is(3);
        twice.simplify().is(3);
        usesAre(twice, 0, 0, 0, 0, 1, 1);
        twice.standIn(3).is(2);
        for (int kind = PARAMETER; kind <= COUNT; kind++) {
            Traced source = fresh();
            source.source(kind, 3, 3, 1).is(0);
            source.source(kind, 3, 3, 1).is(1);
            source.simplify().is(1);
            usesAre(source, 0, 0, 0, 0, 0, 1);
        }
    }

    private void firstThatFits() {
        sentence("Terms", "Then the first of these rules that fits");
        // FOLD, though NEUTRAL, ZERO or SAME would fit too
        Traced fold = fresh();
        fold.source(SPLAT, 1, 2, 0).is(0);
        fold.source(SPLAT, 1, 2, 1).is(1);
        fold.operation(ADD, 0, 1, 0).is(2);
        fold.operation(MUL, 0, 1, 0).is(3);
        fold.operation(MAX, 1, 1, 0).is(4);
        fold.reshape(SPREAD, 1, 1, 2).is(5);
        fold.reshape(FLAT, 1, 1, 2).is(6);
        fold.part(1, 0, 0, 1, 2).is(7);
        fold.simplify().is(2);
        usesAre(fold, 6, 0, 0, 0, 0, 6);
        // NEUTRAL, though TWICE or ALIKE would fit too
        Traced neutral = freshWith(2, 2);
        neutral.reshape(FLAT, 0, 1, 4).is(1);
        neutral.reshape(FLAT, 1, 1, 4).is(2);
        neutral.reshape(FLAT, 1, 1, 4).is(3);
        neutral.simplify().is(2);
        usesAre(neutral, 0, 2, 0, 0, 0, 0);
        standInsAre(neutral, 0, 1, 1, 1);
        // SAME and TWICE, though ALIKE would fit too if they had no stand-in
        Traced later = freshWith(2, 2);
        later.operation(NEG, 0, 0, 0).is(1);
        later.operation(NEG, 1, 1, 0).is(2);
        later.operation(NEG, 1, 1, 0).is(3);
        later.operation(MAX, 0, 0, 0).is(4);
        later.operation(MAX, 0, 0, 0).is(5);
        later.simplify().is(2);
        usesAre(later, 0, 0, 0, 2, 2, 0);
    }

    private void countedByItsRule() {
        sentence("Terms", "Each use of the rules 1 to 6 is counted by its rule (both, if 6 fits after 1, 3 or 5).");
        Traced x = freshWith(1, 4);
        x.simplify().is(1);
        usesAre(x, 0, 0, 0, 0, 0, 0);
        x.source(SPLAT, 1, 4, 2).is(1);
        x.operation(NEG, 1, 1, 0).is(2);
        x.simplify().is(3);
        usesAre(x, 1, 0, 0, 0, 0, 0);
        x.source(SPLAT, 1, 4, 0).is(3);
        x.operation(MUL, 3, 0, 0).is(4);
        x.simplify().is(4);
        usesAre(x, 1, 0, 1, 0, 0, 1);
        x.reshape(FLAT, 0, 4, 1).is(5);
        x.reshape(FLAT, 5, 2, 2).is(6);
        x.simplify().is(6);
        usesAre(x, 1, 0, 1, 0, 1, 1);
        x.reshape(FLAT, 6, 4, 1).is(7);
        x.simplify().is(6);
        usesAre(x, 1, 0, 1, 0, 2, 2);
        x.reshape(FLAT, 6, 1, 4).is(8);
        x.simplify().is(6);
        usesAre(x, 1, 0, 1, 0, 3, 2);
    }
}
