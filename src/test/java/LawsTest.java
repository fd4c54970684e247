import java.util.Arrays;

/**
 * What the document's sentences say together of every module, asked of many modules that are the
 * same at every start. No answer is worked out here a second time: the answers of one object are
 * held against each other, so that a reading of the document that is wrong in the class and in
 * Model alike can still be found.
 */
public final class LawsTest extends Boundaries {
    private static final int MODULES = 2000;
    private static final int SIDE = 4;

    private long state;

    public static void main(String[] args) {
        new LawsTest().run();
    }

    @Override
    void testAll() {
        shapesAreChecked();
        beforeAndAfterSimplifying();
        standInsOfAll();
        noRuleIsLeft();
        liveOfAll();
        workOfAll();
        asTheyWereAdded();
        simplifiedAgain();
    }

    private int below(int bound) {
        state = state * 6364136223846793005L + 1442695040888963407L;
        return (int) ((state >>> 33) % bound);
    }

    private int side() {
        return 1 + below(SIDE);
    }

    private static int got(Traced.Answer answer) {
        return (int) answer.got();
    }

    /** The module of that number with all values that an object holds, none of them marked. */
    private Traced module(int number) {
        state = number * 104729L;
        Traced x = fresh();
        for (int k = 0; k < 2 * MOST_VALUES && x.values() < MOST_VALUES; k++) {
            add(x);
        }
        while (x.values() < MOST_VALUES) {
            x.source(SPLAT, 1, 1, below(3) - 1);
        }
        return x;
    }

    private void add(Traced x) {
        int a = x.values() == 0 ? 0 : below(x.values());
        int b = x.values() == 0 ? 0 : below(x.values());
        int kind = x.values() < 2 ? below(3) : below(13);
        switch (kind) {
            case PARAMETER: x.source(kind, side(), side(), below(2)); break;
            case SPLAT: x.source(kind, side(), side(), below(4) - 1); break;
            case COUNT: x.source(kind, side(), side(), below(2)); break;
            case NEG: case TURN: x.operation(kind, a, a, 0); break;
            case SUM: x.operation(kind, a, a, below(2)); break;
            case SPREAD: case FLAT: x.reshape(kind, a, side(), side()); break;
            case PART: x.part(a, below(2), below(2), side(), side()); break;
            default: x.operation(kind, a, b, 0); break;
        }
    }

    private Traced worked(int number, boolean simplified) {
        Traced x = module(number);
        for (int v = 0; v < MOST_VALUES; v++) {
            x.mark(v, true);
        }
        for (int cell = 0; cell < SIDE * SIDE; cell++) {
            x.set(0, cell / SIDE, cell % SIDE, below(7) - 3);
            x.set(1, cell / SIDE, cell % SIDE, (below(MOST) << 1) + below(2));
        }
        if (simplified) {
            x.simplify();
        }
        x.work();
        return x;
    }

    private void shapesAreChecked() {
        sentence("What it is", "it is built operation by operation with its shapes checked");
        for (int number = 1; number <= MODULES; number++) {
            Traced x = module(number);
            int[][] o = operations(x);
            for (int v = 0; v < MOST_VALUES; v++) {
                if (o[v][0] > COUNT) {
                    boolean fits = fits(o[v], o[o[v][3]], o[v][4] < 0 ? null : o[o[v][4]]);
                    due("module " + number + ", shape of value " + v + " fits", fits ? 1 : 0, 1);
                }
            }
        }
    }

    /** The rows and columns of o are those that its kind makes of those of its arguments. */
    private static boolean fits(int[] o, int[] a, int[] b) {
        int rows = o[1];
        int columns = o[2];
        switch (o[0]) {
            case ADD: case MUL: case MAX:
                return rows == a[1] && rows == b[1] && columns == a[2] && columns == b[2];
            case NEG: return rows == a[1] && columns == a[2];
            case TURN: return rows == a[2] && columns == a[1];
            case DOT: return rows == a[1] && columns == b[2] && a[2] == b[1];
            case SUM: return o[5] == 0 ? rows == 1 && columns == a[2] : rows == a[1] && columns == 1;
            case SPREAD: return (a[1] == 1 || a[1] == rows) && (a[2] == 1 || a[2] == columns);
            case FLAT: return rows * columns == a[1] * a[2];
            default: return o[5] + rows <= a[1] && o[6] + columns <= a[2];
        }
    }

    private void beforeAndAfterSimplifying() {
        sentence("What it is", "worked out on parameters, before or after simplifying");
        for (int number = 1; number <= MODULES; number++) {
            // in halves, for an object has 512 calls
            sameCells(number, 0, MOST_VALUES / 2);
            sameCells(number, MOST_VALUES / 2, MOST_VALUES);
        }
    }

    private void sameCells(int number, int from, int to) {
        Traced before = worked(number, false);
        Traced after = worked(number, true);
        for (int v = from; v < to; v++) {
            int standIn = got(after.standIn(v));
            for (int cell = 0; cell < SIDE * SIDE; cell++) {
                int i = cell / SIDE;
                int j = cell % SIDE;
                after.cell(standIn, i, j).is(before.cell(v, i, j).got());
            }
        }
    }

    private void standInsOfAll() {
        sentence("Terms", "gives each a STAND-IN, a value not after it with the same SHAPE");
        for (int number = 1; number <= MODULES; number++) {
            Traced x = module(number);
            Traced.Answer simplified = x.simplify();
            int own = 0;
            for (int v = 0; v < MOST_VALUES; v++) {
                int standIn = got(x.standIn(v));
                x.standIn(standIn).is(standIn);
                x.standIn(v).is(Math.min(v, standIn));
                shapeIs(x, v, got(x.value(standIn, 1)), got(x.value(standIn, 2)));
                own += standIn == v ? 1 : 0;
            }
            simplified.is(own);
        }
    }

    private void noRuleIsLeft() {
        sentence("Terms", "SIMPLIFYING goes through the values in order");
        for (int number = 1; number <= MODULES; number++) {
            Traced x = module(number);
            x.simplify();
            int[][] o = operations(x);
            for (int v = 0; v < MOST_VALUES; v++) {
                if (got(x.standIn(v)) == v) {
                    due("module " + number + ", rule left for value " + v, ruleThatFits(x, o, v), 0);
                }
            }
        }
    }

    /** The operations of all values, as value tells them. */
    private static int[][] operations(Traced x) {
        int[][] o = new int[MOST_VALUES][7];
        for (int v = 0; v < MOST_VALUES; v++) {
            for (int what = 0; what < 7; what++) {
                o[v][what] = got(x.value(v, what));
            }
        }
        return o;
    }

    /** A rule that could still be used on v, which is its own stand-in, or 0. */
    private static int ruleThatFits(Traced x, int[][] o, int v) {
        int kind = o[v][0];
        if (kind > COUNT) {
            int[] a = o[o[v][3]];
            int[] b = o[v][4] < 0 ? a : o[o[v][4]];
            boolean sameShape = a[1] == o[v][1] && a[2] == o[v][2];
            if (a[0] == SPLAT && b[0] == SPLAT) {
                return 1;
            }
            if (kind >= SPREAD && sameShape || kind == ADD && isSplat(a, b, 0) || kind == MUL && isSplat(a, b, 1)) {
                return 2;
            }
            if (kind == MUL && isSplat(a, b, 0)) {
                return 3;
            }
            if (kind == MAX && o[v][3] == o[v][4]) {
                return 4;
            }
            if (a[0] == kind && (kind == NEG || kind == TURN || kind == FLAT)) {
                return 5;
            }
        }
        for (int u = 0; u < v; u++) {
            if (Arrays.equals(o[u], o[v]) && got(x.standIn(u)) == u) {
                return 6;
            }
        }
        return 0;
    }

    private static boolean isSplat(int[] a, int[] b, int number) {
        return a[0] == SPLAT && a[5] == number || b[0] == SPLAT && b[5] == number;
    }

    private void liveOfAll() {
        sentence("Terms", "Then the LIVE values are the STAND-INS of MARKED ones and the ARGUMENTS of LIVE ones.");
        for (int number = 1; number <= MODULES; number++) {
            Traced x = module(number);
            int one = below(MOST_VALUES);
            int other = below(MOST_VALUES);
            x.mark(one, true).is(DONE);
            x.mark(other, true).is(DONE);
            liveIs(x, one, other);
            x.simplify();
            liveIs(x, got(x.standIn(one)), got(x.standIn(other)));
        }
    }

    /** Live are these two and what is an argument of a live one, which all come before it. */
    private void liveIs(Traced x, int one, int other) {
        boolean[] needed = new boolean[MOST_VALUES];
        needed[one] = true;
        needed[other] = true;
        int live = 0;
        for (int v = MOST_VALUES - 1; v >= 0; v--) {
            x.value(v, 7).is(needed[v] ? 1 : 0);
            for (int what = 3; needed[v] && what <= 4; what++) {
                int argument = got(x.value(v, what));
                if (argument >= 0) {
                    needed[argument] = true;
                }
            }
            live += needed[v] ? 1 : 0;
        }
        x.count(7).is(live);
    }

    private void workOfAll() {
        sentence("Promise 13", "8: the sum of the WORK of LIVE ones");
        for (int number = 1; number <= MODULES; number++) {
            Traced x = module(number);
            x.count(8).is(0);
            x.work().is(0);
            x.mark(MOST_VALUES - 1, true).is(DONE);
            x.count(8).is(x.work().got());
            x.simplify();
            x.count(8).is(x.work().got());
        }
    }

    private void asTheyWereAdded() {
        sentence("Terms", "all OPERATIONS are as they were added again, every value is its own STAND-IN.");
        for (int number = 1; number <= MODULES; number++) {
            int[][] asAdded = operations(module(number));
            Traced x = module(number);
            x.simplify();
            x.mark(below(MOST_VALUES), true).is(DONE);
            for (int v = 0; v < MOST_VALUES; v++) {
                x.standIn(v).is(v);
                for (int what = 0; what < 7; what++) {
                    x.value(v, what).is(asAdded[v][what]);
                }
            }
        }
    }

    private void simplifiedAgain() {
        sentence("Promise 13", "How often rule r (1 .. 6) was used in the latest SIMPLIFYING");
        for (int number = 1; number <= MODULES; number++) {
            Traced x = module(number);
            int own = got(x.simplify());
            int[] uses = new int[6];
            int[] standIns = new int[MOST_VALUES];
            for (int r = 1; r <= 6; r++) {
                uses[r - 1] = got(x.count(r));
            }
            for (int v = 0; v < MOST_VALUES; v++) {
                standIns[v] = got(x.standIn(v));
            }
            x.mark(below(MOST_VALUES), true).is(DONE);
            usesAre(x, uses);
            x.simplify().is(own);
            usesAre(x, uses);
            standInsAre(x, standIns);
        }
    }
}
