import java.util.ArrayList;
import java.util.List;

/** A new object of MatrixModule with its calls and answers, to tell a wrong answer with its run. */
final class Traced {
    /** What later calls answer is free. */
    private static final int MOST_CALLS = 512;
    private static final int CALLS_TOLD = 40;

    /** What a call answered, which was the number-th of its object. */
    record Answer(Traced run, int number, long got) {
        void is(long want) {
            run.check.due(got == want ? "" : run.told(number), got, want);
        }
    }

    private final Check check;
    private final MatrixModule module = new MatrixModule();
    private final List<String> calls = new ArrayList<>();
    private final List<Long> answers = new ArrayList<>();
    private int values = 0;

    Traced(Check check) {
        this.check = check;
    }

    Answer source(int kind, int rows, int columns, int p) {
        return added(module.source(kind, rows, columns, p), "source", kind, rows, columns, p);
    }

    Answer operation(int kind, int a, int b, int p) {
        return added(module.operation(kind, a, b, p), "operation", kind, a, b, p);
    }

    Answer reshape(int kind, int a, int rows, int columns) {
        return added(module.reshape(kind, a, rows, columns), "reshape", kind, a, rows, columns);
    }

    Answer part(int a, int p, int q, int rows, int columns) {
        return added(module.part(a, p, q, rows, columns), "part", a, p, q, rows, columns);
    }

    Answer mark(int v, boolean on) {
        return answered(module.mark(v, on), on ? "mark on" : "mark off", v);
    }

    Answer set(int p, int i, int j, int value) {
        return answered(module.set(p, i, j, value), "set", p, i, j, value);
    }

    Answer simplify() {
        return answered(module.simplify(), "simplify");
    }

    Answer work() {
        return answered(module.work(), "work");
    }

    Answer cell(int v, int i, int j) {
        return answered(module.cell(v, i, j), "cell", v, i, j);
    }

    Answer standIn(int v) {
        return answered(module.standIn(v), "standIn", v);
    }

    Answer value(int v, int what) {
        return answered(module.value(v, what), "value", v, what);
    }

    Answer count(int r) {
        return answered(module.count(r), "count", r);
    }

    /** How many values the calls have added, which takes no call to know. */
    int values() {
        return values;
    }

    int callsMade() {
        return calls.size();
    }

    String call(int number) {
        return calls.get(number);
    }

    long answer(int number) {
        return answers.get(number);
    }

    private Answer added(long got, String name, int... arguments) {
        if (got >= 0) {
            values++;
        }
        return answered(got, name, arguments);
    }

    private Answer answered(long got, String name, int... arguments) {
        StringBuilder text = new StringBuilder(name).append('(');
        for (int k = 0; k < arguments.length; k++) {
            text.append(k == 0 ? "" : ", ").append(arguments[k]);
        }
        calls.add(text.append(')').toString());
        answers.add(got);
        if (calls.size() > MOST_CALLS) {
            check.due("the calls of one object", calls.size(), MOST_CALLS);
        }
        return new Answer(this, calls.size() - 1, got);
    }

    private String told(int number) {
        int from = Math.max(0, number - CALLS_TOLD);
        String gap = from == 0 ? "" : from + " calls and ";
        return calls.get(number) + " after " + gap + calls.subList(from, number);
    }
}
