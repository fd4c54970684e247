import java.util.List;

/**
 * Compares an object that had a refused call with one that was made by the same calls but for that
 * one, in all that later calls show: each look is taken on two new objects, so that no look hides
 * what another would have shown.
 */
final class Unchanged {
    interface Steps {
        void on(Traced x);
    }

    interface Call {
        Traced.Answer on(Traced x);
    }

    private static final int MOST_VALUES = 28;

    static final List<Steps> WITHOUT_VALUES = List.of(
            x -> { },
            x -> x.simplify());
    static final List<Steps> WITH_VALUES = List.of(
            Unchanged::build,
            x -> { build(x); x.work(); },
            x -> { build(x); x.simplify(); },
            x -> { build(x); x.simplify(); x.work(); });
    static final List<Steps> WITH_ALL_VALUES = List.of(
            x -> { fill(x); x.work(); },
            x -> { fill(x); x.simplify(); x.work(); });

    private static final List<Steps> LOOKS = List.of(
            Unchanged::lookAtValues,
            x -> lookAtCells(x, 0, 14),
            x -> lookAtCells(x, 14, MOST_VALUES),
            x -> { x.work(); lookAtCells(x, 0, 14); },
            x -> { x.work(); lookAtCells(x, 14, MOST_VALUES); },
            x -> { x.simplify(); lookAtValues(x); },
            x -> { x.mark(0, false); lookAtValues(x); },
            x -> { x.mark(0, false); x.work(); lookAtCells(x, 0, 14); },
            x -> { x.mark(0, false); x.simplify(); lookAtValues(x); },
            x -> { x.source(1, 1, 1, 77); lookAtValues(x); },
            x -> { x.source(1, 1, 1, 77); x.simplify(); lookAtValues(x); },
            Unchanged::lookAtParameters);

    private Unchanged() {
    }

    /** The call may be a row of calls, all of them refused. */
    static void by(Check check, List<Steps> states, Call call, long due) {
        for (Steps state : states) {
            for (Steps look : LOOKS) {
                Traced left = new Traced(check);
                state.on(left);
                int leftFrom = left.callsMade();
                look.on(left);
                Traced called = new Traced(check);
                state.on(called);
                call.on(called).is(due);
                int calledFrom = called.callsMade();
                look.on(called);
                compare(check, left, leftFrom, called, calledFrom);
            }
        }
    }

    private static void compare(Check check, Traced left, int leftFrom, Traced called, int calledFrom) {
        String refused = " after " + called.call(calledFrom - 1);
        int looked = left.callsMade() - leftFrom;
        check.due("calls" + refused, called.callsMade() - calledFrom, looked);
        for (int k = 0; k < looked && calledFrom + k < called.callsMade(); k++) {
            check.due(called.call(calledFrom + k) + refused, called.answer(calledFrom + k), left.answer(leftFrom + k));
        }
    }

    /** Value 0 has 2 rows and 3 columns, 4 has 3 rows and 2; 0 is not marked, and rules are used. */
    private static void build(Traced x) {
        x.source(0, 2, 3, 0);
        x.source(1, 2, 3, 0);
        x.operation(3, 1, 0, 0);
        x.operation(6, 2, 2, 0);
        x.operation(7, 3, 3, 0);
        x.operation(8, 0, 4, 0);
        x.mark(3, true);
        x.mark(5, true);
        x.set(0, 0, 0, 5);
        x.set(0, 1, 2, -7);
        x.set(2, 3, 3, 9);
    }

    private static void fill(Traced x) {
        build(x);
        for (int p = 0; p < 4; p++) {
            x.source(0, 4, 4, p);
            x.mark(x.values() - 1, true);
        }
        while (x.values() < MOST_VALUES) {
            x.source(1, 1, 1, x.values() / 2);
        }
        x.mark(MOST_VALUES - 1, true);
    }

    private static void lookAtValues(Traced x) {
        for (int r = 0; r <= 9; r++) {
            x.count(r);
        }
        int values = (int) x.count(0).got();
        for (int v = 0; v <= values; v++) {
            x.standIn(v);
            for (int what = 0; what <= 7; what++) {
                x.value(v, what);
            }
        }
    }

    private static void lookAtCells(Traced x, int from, int to) {
        int values = (int) x.count(0).got();
        for (int v = from; v < to && v < values; v++) {
            for (int i = 0; i < 4; i++) {
                for (int j = 0; j < 4; j++) {
                    x.cell(v, i, j);
                }
            }
        }
    }

    private static void lookAtParameters(Traced x) {
        int values = (int) x.count(0).got();
        for (int p = 0; p < 4; p++) {
            x.source(0, 4, 4, p);
            x.mark(values + p, true);
        }
        x.work();
        lookAtCells(x, values, values + 4);
    }
}
