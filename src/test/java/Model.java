import java.util.ArrayList;
import java.util.HashMap;
import java.util.List;
import java.util.Map;
import java.util.Set;
import java.util.TreeSet;

/**
 * The document written a second time, as plainly as possible and with nothing kept that can be
 * worked out again, so that a slip in the program is not likely to stand here too.
 */
final class Model {
    private static final String[] NAMES = {"PARAMETER", "SPLAT", "COUNT", "ADD", "MUL", "MAX", "NEG",
        "TURN", "DOT", "SUM", "SPREAD", "FLAT", "PART"};

    private record Op(String kind, int rows, int columns, List<Integer> arguments, int p, int q) {
        Op with(List<Integer> others) {
            return new Op(kind, rows, columns, others, p, q);
        }

        Op splat(int c) {
            return new Op("SPLAT", rows, columns, List.of(), c, 0);
        }

        String shape() {
            return rows + "x" + columns;
        }
    }

    private final List<Op> added = new ArrayList<>();
    private final Set<Integer> marked = new TreeSet<>();
    private final Map<String, Integer> parameters = new HashMap<>();
    /** Of the simplified module; null if it is not simplified. */
    private List<Op> simpler = null;
    private List<Integer> standIns = null;
    private final int[] uses = new int[7];
    /** Of the latest work; null if there is none or something came after. */
    private Map<Integer, int[][]> worked = null;

    int source(int kind, int rows, int columns, int p) {
        if (out(kind, 0, 2) || out(rows, 1, 4) || out(columns, 1, 4)) return -1;
        if (kind == 0 && out(p, 0, 3) || kind == 2 && out(p, 0, 1)) return -1;
        return add(new Op(NAMES[kind], rows, columns, List.of(), p, 0));
    }

    int operation(int kind, int a, int b, int p) {
        if (out(kind, 3, 9) || noValue(a) || noValue(b)) return -1;
        String name = NAMES[kind];
        boolean one = Set.of("NEG", "TURN", "SUM").contains(name);
        if (one && a != b) return -1;
        if (out(p, 0, name.equals("SUM") ? 1 : 0)) return -1;
        Op x = added.get(a);
        Op y = added.get(b);
        switch (name) {
            case "ADD", "MUL", "MAX":
                if (!x.shape().equals(y.shape())) return -3;
                return add(new Op(name, x.rows, x.columns, List.of(a, b), 0, 0));
            case "DOT":
                if (x.columns != y.rows) return -3;
                return add(new Op(name, x.rows, y.columns, List.of(a, b), 0, 0));
            case "TURN":
                return add(new Op(name, x.columns, x.rows, List.of(a), 0, 0));
            case "SUM":
                return add(new Op(name, p == 0 ? 1 : x.rows, p == 0 ? x.columns : 1, List.of(a), p, 0));
            default:
                return add(new Op(name, x.rows, x.columns, List.of(a), 0, 0));
        }
    }

    int reshape(int kind, int a, int rows, int columns) {
        if (out(kind, 10, 11) || noValue(a) || out(rows, 1, 4) || out(columns, 1, 4)) return -1;
        Op x = added.get(a);
        if (kind == 10 && (x.rows != 1 && x.rows != rows || x.columns != 1 && x.columns != columns)) return -3;
        if (kind == 11 && x.rows * x.columns != rows * columns) return -3;
        return add(new Op(NAMES[kind], rows, columns, List.of(a), 0, 0));
    }

    int part(int a, int p, int q, int rows, int columns) {
        if (noValue(a) || out(p, 0, 3) || out(q, 0, 3) || out(rows, 1, 4) || out(columns, 1, 4)) return -1;
        Op x = added.get(a);
        if (p + rows > x.rows || q + columns > x.columns) return -3;
        return add(new Op("PART", rows, columns, List.of(a), p, q));
    }

    int mark(int v, boolean on) {
        if (noValue(v)) return -1;
        if (on) marked.add(v); else marked.remove(v);
        forget();
        return 0;
    }

    int set(int p, int i, int j, int value) {
        if (out(p, 0, 3) || out(i, 0, 3) || out(j, 0, 3)) return -1;
        parameters.put(p + " " + i + " " + j, value);
        return 0;
    }

    int simplify() {
        if (simpler != null) return -4;
        for (int r = 0; r <= 6; r++) uses[r] = 0;
        simpler = new ArrayList<>();
        standIns = new ArrayList<>();
        worked = null;
        int own = 0;
        for (int v = 0; v < added.size(); v++) {
            simplifyNext(v);
            if (standIns.get(v) == v) own++;
        }
        return own;
    }

    int work() {
        Map<Integer, int[][]> made = new HashMap<>();
        for (int v : live()) made.put(v, matrix(v));
        worked = made;
        return count(8);
    }

    long cell(int v, int i, int j) {
        if (worked == null || !worked.containsKey(v)) return -1000000000000L;
        int[][] m = worked.get(v);
        return out(i, 0, m.length - 1) || out(j, 0, m[0].length - 1) ? -1000000000000L : m[i][j];
    }

    int standIn(int v) {
        if (noValue(v)) return -1;
        return simpler == null ? v : standIns.get(v);
    }

    int value(int v, int what) {
        if (noValue(v)) return -1;
        Op o = now(v);
        return switch (what) {
            case 0 -> List.of(NAMES).indexOf(o.kind);
            case 1 -> o.rows;
            case 2 -> o.columns;
            case 3 -> o.arguments.size() > 0 ? o.arguments.get(0) : -1;
            case 4 -> o.arguments.size() > 1 ? o.arguments.get(1) : -1;
            case 5 -> o.p;
            case 6 -> o.q;
            case 7 -> live().contains(v) ? 1 : 0;
            default -> -1;
        };
    }

    int count(int r) {
        if (!out(r, 1, 6)) return uses[r];
        if (r == 0) return added.size();
        if (r == 7) return live().size();
        if (r == 9) return simpler == null ? 0 : 1;
        if (r != 8) return -1;
        int sum = 0;
        for (int v : live()) sum += workOf(now(v));
        return sum;
    }

    private static boolean out(int x, int least, int most) {
        return x < least || x > most;
    }

    private boolean noValue(int v) {
        return out(v, 0, added.size() - 1);
    }

    private int add(Op o) {
        if (added.size() == 28) return -2;
        added.add(o);
        forget();
        return added.size() - 1;
    }

    private void forget() {
        simpler = null;
        standIns = null;
        worked = null;
    }

    private Op now(int v) {
        return (simpler == null ? added : simpler).get(v);
    }

    private Set<Integer> live() {
        Set<Integer> live = new TreeSet<>();
        for (int v : marked) reach(standIn(v), live);
        return live;
    }

    private void reach(int v, Set<Integer> live) {
        if (live.add(v)) {
            for (int a : now(v).arguments) reach(a, live);
        }
    }

    private int workOf(Op o) {
        return switch (o.kind) {
            case "PARAMETER", "SPLAT", "COUNT" -> 0;
            case "DOT" -> o.rows * o.columns * now(o.arguments.get(0)).columns;
            case "SUM" -> now(o.arguments.get(0)).rows * now(o.arguments.get(0)).columns;
            default -> o.rows * o.columns;
        };
    }

    private void simplifyNext(int v) {
        List<Integer> arguments = new ArrayList<>();
        for (int a : added.get(v).arguments) arguments.add(standIns.get(a));
        Op o = added.get(v).with(arguments);
        if (Set.of("ADD", "MUL", "MAX").contains(o.kind) && arguments.get(0) > arguments.get(1)) {
            o = o.with(List.of(arguments.get(1), arguments.get(0)));
        }
        Integer standIn = null;
        int rule = ruleFor(o);
        if (rule != 0) uses[rule]++;
        switch (rule) {
            case 1: o = o.splat(cellFrom(o, splatsOf(o), 0, 0)); break;
            case 2: standIn = neutral(o); break;
            case 3: o = o.splat(0); break;
            case 4: standIn = o.arguments.get(0); break;
            case 5:
                int inner = simpler.get(o.arguments.get(0)).arguments.get(0);
                if (!o.kind.equals("FLAT") || o.shape().equals(simpler.get(inner).shape())) standIn = inner;
                else o = o.with(List.of(inner));
                break;
            default: break;
        }
        for (int u = 0; u < v && standIn == null; u++) {
            if (standIns.get(u) == u && simpler.get(u).equals(o)) {
                standIn = u;
                uses[6]++;
            }
        }
        simpler.add(o);
        standIns.add(standIn == null ? v : standIn);
    }

    /** Rules 1 to 5; 0 if none of them fits. */
    private int ruleFor(Op o) {
        List<Integer> arguments = o.arguments;
        if (!arguments.isEmpty() && arguments.stream().allMatch(a -> simpler.get(a).kind.equals("SPLAT"))) return 1;
        if (neutral(o) != null) return 2;
        if (o.kind.equals("MUL") && arguments.stream().anyMatch(a -> isSplat(a, 0))) return 3;
        if (o.kind.equals("MAX") && arguments.get(0).equals(arguments.get(1))) return 4;
        boolean undoing = Set.of("NEG", "TURN", "FLAT").contains(o.kind);
        return undoing && simpler.get(arguments.get(0)).kind.equals(o.kind) ? 5 : 0;
    }

    private boolean isSplat(int v, int c) {
        return simpler.get(v).kind.equals("SPLAT") && simpler.get(v).p == c;
    }

    private Integer neutral(Op o) {
        if (Set.of("SPREAD", "FLAT", "PART").contains(o.kind)) {
            int a = o.arguments.get(0);
            return simpler.get(a).shape().equals(o.shape()) ? a : null;
        }
        if (!Set.of("ADD", "MUL").contains(o.kind)) return null;
        int c = o.kind.equals("ADD") ? 0 : 1;
        if (isSplat(o.arguments.get(0), c)) return o.arguments.get(1);
        return isSplat(o.arguments.get(1), c) ? o.arguments.get(0) : null;
    }

    private List<int[][]> splatsOf(Op o) {
        List<int[][]> matrices = new ArrayList<>();
        for (int a : o.arguments) {
            Op s = simpler.get(a);
            int[][] m = new int[s.rows][s.columns];
            for (int[] row : m) java.util.Arrays.fill(row, s.p);
            matrices.add(m);
        }
        return matrices;
    }

    private int[][] matrix(int v) {
        Op o = now(v);
        List<int[][]> of = new ArrayList<>();
        for (int a : o.arguments) of.add(matrix(a));
        int[][] m = new int[o.rows][o.columns];
        for (int i = 0; i < o.rows; i++) {
            for (int j = 0; j < o.columns; j++) m[i][j] = cellFrom(o, of, i, j);
        }
        return m;
    }

    private int cellFrom(Op o, List<int[][]> of, int i, int j) {
        int[][] a = of.size() > 0 ? of.get(0) : null;
        int[][] b = of.size() > 1 ? of.get(1) : null;
        int sum = 0;
        switch (o.kind) {
            case "PARAMETER": return parameters.getOrDefault(o.p + " " + i + " " + j, 0);
            case "SPLAT": return o.p;
            case "COUNT": return o.p == 0 ? i : j;
            case "ADD": return a[i][j] + b[i][j];
            case "MUL": return a[i][j] * b[i][j];
            case "MAX": return a[i][j] > b[i][j] ? a[i][j] : b[i][j];
            case "NEG": return 0 - a[i][j];
            case "TURN": return a[j][i];
            case "DOT":
                for (int k = 0; k < b.length; k++) sum += a[i][k] * b[k][j];
                return sum;
            case "SUM":
                if (o.p == 1) {
                    for (int x : a[i]) sum += x;
                } else {
                    for (int[] row : a) sum += row[j];
                }
                return sum;
            case "SPREAD": return a[a.length == 1 ? 0 : i][a[0].length == 1 ? 0 : j];
            case "FLAT":
                int place = i * o.columns + j;
                return a[place / a[0].length][place % a[0].length];
            default: return a[i + o.p][j + o.q];
        }
    }
}
