import java.util.Arrays;

/**
 * A module of operations on small matrices of ints: it is built operation by operation with its
 * shapes checked, simplified by rules, and worked out on parameters, before or after simplifying.
 */
public final class MatrixModule {
    public static final int DONE = 0;
    public static final int REFUSED = -1;
    public static final int FULL = -2;
    public static final int SHAPE = -3;
    public static final int STATE = -4;
    public static final long NONE = -1000000000000L;

    private static final int PARAMETER = 0;
    private static final int SPLAT = 1;
    private static final int COUNT = 2;
    private static final int ADD = 3;
    private static final int MUL = 4;
    private static final int MAX = 5;
    private static final int NEG = 6;
    private static final int TURN = 7;
    private static final int DOT = 8;
    private static final int SUM = 9;
    private static final int SPREAD = 10;
    private static final int FLAT = 11;
    private static final int PART = 12;

    private static final int FOLD = 1;
    private static final int NEUTRAL = 2;
    private static final int ZERO = 3;
    private static final int SAME = 4;
    private static final int TWICE = 5;
    private static final int ALIKE = 6;

    private static final int MOST_VALUES = 28;
    private static final int PARAMETERS = 4;
    private static final int SIDE = 4;
    /** Stands where an operation has no argument and where a rule finds no value. */
    private static final int NO_VALUE = -1;

    /** One operation; numbers that its kind doesn't use are 0, so that all can be compared. */
    private static final class Operation {
        private int kind;
        private int rows;
        private int columns;
        private int first;
        private int second;
        private int p;
        private int q;

        private void takeShape(int newRows, int newColumns) {
            rows = newRows;
            columns = newColumns;
        }

        private void become(int newKind, int newFirst, int newSecond, int newP, int newQ) {
            kind = newKind;
            first = newFirst;
            second = newSecond;
            p = newP;
            q = newQ;
        }

        private void becomeSplat(int number) {
            become(SPLAT, NO_VALUE, NO_VALUE, number, 0);
        }

        private void copyFrom(Operation other) {
            takeShape(other.rows, other.columns);
            become(other.kind, other.first, other.second, other.p, other.q);
        }

        private boolean isSplatOf(int number) {
            return kind == SPLAT && p == number;
        }

        private boolean takesPairs() {
            return kind == ADD || kind == MUL || kind == MAX;
        }

        private boolean isReshaping() {
            return kind == SPREAD || kind == FLAT || kind == PART;
        }

        private boolean hasShapeOf(Operation other) {
            return rows == other.rows && columns == other.columns;
        }

        private boolean isLike(Operation other) {
            return kind == other.kind && first == other.first && second == other.second
                    && p == other.p && q == other.q && hasShapeOf(other);
        }
    }

    /** The operations as they were added, to go back to when simplifying is undone. */
    private final Operation[] added = new Operation[MOST_VALUES];
    private final Operation[] present = new Operation[MOST_VALUES];
    private final int[] standIns = new int[MOST_VALUES];
    private final boolean[] marked = new boolean[MOST_VALUES];
    private final boolean[] live = new boolean[MOST_VALUES];
    /** Row by row without gaps, so that a FLAT has its argument's cells in the same places. */
    private final int[][] cells = new int[MOST_VALUES][SIDE * SIDE];
    private final int[][] parameters = new int[PARAMETERS][SIDE * SIDE];
    private final int[] uses = new int[ALIKE + 1];
    private int values = 0;
    private boolean simplified = false;
    /** Whether the cells are those of the module as it is now. */
    private boolean worked = false;

    public MatrixModule() {
        for (int v = 0; v < MOST_VALUES; v++) {
            added[v] = new Operation();
            present[v] = new Operation();
        }
    }

    public int source(int kind, int rows, int columns, int p) {
        if (kind < PARAMETER || kind > COUNT || !isShape(rows, columns) || !isSourceNumber(kind, p)) {
            return REFUSED;
        }
        if (values >= MOST_VALUES) {
            return FULL;
        }
        added[values].become(kind, NO_VALUE, NO_VALUE, p, 0);
        return addWithShape(rows, columns);
    }

    public int operation(int kind, int a, int b, int p) {
        if (kind < ADD || kind > SUM || !isValue(a) || !isValue(b)) {
            return REFUSED;
        }
        boolean single = kind == NEG || kind == TURN || kind == SUM;
        if ((single && b != a) || p < 0 || p > (kind == SUM ? 1 : 0)) {
            return REFUSED;
        }
        if (!shapesFit(kind, added[a], added[b])) {
            return SHAPE;
        }
        if (values >= MOST_VALUES) {
            return FULL;
        }
        added[values].become(kind, a, single ? NO_VALUE : b, p, 0);
        return addWithShape(rowsOf(kind, added[a], p), columnsOf(kind, added[a], added[b], p));
    }

    public int reshape(int kind, int a, int rows, int columns) {
        if (kind < SPREAD || kind > FLAT || !isValue(a) || !isShape(rows, columns)) {
            return REFUSED;
        }
        Operation from = added[a];
        boolean fits = kind == SPREAD
                ? spreads(from.rows, rows) && spreads(from.columns, columns)
                : from.rows * from.columns == rows * columns;
        if (!fits) {
            return SHAPE;
        }
        if (values >= MOST_VALUES) {
            return FULL;
        }
        added[values].become(kind, a, NO_VALUE, 0, 0);
        return addWithShape(rows, columns);
    }

    public int part(int a, int p, int q, int rows, int columns) {
        if (!isValue(a) || !isPlace(p, q) || !isShape(rows, columns)) {
            return REFUSED;
        }
        if (p + rows > added[a].rows || q + columns > added[a].columns) {
            return SHAPE;
        }
        if (values >= MOST_VALUES) {
            return FULL;
        }
        added[values].become(PART, a, NO_VALUE, p, q);
        return addWithShape(rows, columns);
    }

    public int mark(int v, boolean on) {
        if (!isValue(v)) {
            return REFUSED;
        }
        marked[v] = on;
        undoSimplifying();
        return DONE;
    }

    public int set(int p, int i, int j, int value) {
        if (p < 0 || p >= PARAMETERS || !isPlace(i, j)) {
            return REFUSED;
        }
        parameters[p][i * SIDE + j] = value;
        return DONE;
    }

    public int simplify() {
        if (simplified) {
            return STATE;
        }
        Arrays.fill(uses, 0);
        int own = 0;
        for (int v = 0; v < values; v++) {
            replaceArguments(present[v]);
            standIns[v] = standInByRules(v);
            if (standIns[v] == v) {
                own++;
            }
        }
        simplified = true;
        worked = false;
        findLive();
        return own;
    }

    public int work() {
        for (int v = 0; v < values; v++) {
            if (live[v]) {
                workOut(v);
            }
        }
        worked = true;
        return workOfLive();
    }

    public long cell(int v, int i, int j) {
        if (!isValue(v) || !worked || !live[v]) {
            return NONE;
        }
        if (i < 0 || i >= present[v].rows || j < 0 || j >= present[v].columns) {
            return NONE;
        }
        return cellAt(v, i, j);
    }

    public int standIn(int v) {
        return isValue(v) ? standIns[v] : REFUSED;
    }

    public int value(int v, int what) {
        if (!isValue(v)) {
            return REFUSED;
        }
        Operation o = present[v];
        switch (what) {
            case 0: return o.kind;
            case 1: return o.rows;
            case 2: return o.columns;
            case 3: return o.first;
            case 4: return o.second;
            case 5: return o.p;
            case 6: return o.q;
            case 7: return live[v] ? 1 : 0;
            default: return REFUSED;
        }
    }

    public int count(int r) {
        if (r >= FOLD && r <= ALIKE) {
            return uses[r];
        }
        switch (r) {
            case 0: return values;
            case 7: return liveValues();
            case 8: return workOfLive();
            case 9: return simplified ? 1 : 0;
            default: return REFUSED;
        }
    }

    private boolean isValue(int v) {
        return v >= 0 && v < values;
    }

    private static boolean isShape(int rows, int columns) {
        return rows >= 1 && rows <= SIDE && columns >= 1 && columns <= SIDE;
    }

    private static boolean isPlace(int i, int j) {
        return i >= 0 && i < SIDE && j >= 0 && j < SIDE;
    }

    private static boolean isSourceNumber(int kind, int p) {
        if (kind == SPLAT) {
            return true;
        }
        return p >= 0 && p < (kind == PARAMETER ? PARAMETERS : 2);
    }

    private static boolean spreads(int from, int to) {
        return from == 1 || from == to;
    }

    private static boolean shapesFit(int kind, Operation a, Operation b) {
        return kind == DOT ? a.columns == b.rows : a.hasShapeOf(b);
    }

    private static int rowsOf(int kind, Operation a, int p) {
        if (kind == TURN) {
            return a.columns;
        }
        return kind == SUM && p == 0 ? 1 : a.rows;
    }

    private static int columnsOf(int kind, Operation a, Operation b, int p) {
        if (kind == TURN) {
            return a.rows;
        }
        return kind == SUM && p == 1 ? 1 : b.columns;
    }

    private int addWithShape(int rows, int columns) {
        int v = values;
        added[v].takeShape(rows, columns);
        values++;
        undoSimplifying();
        return v;
    }

    private void undoSimplifying() {
        for (int v = 0; v < values; v++) {
            present[v].copyFrom(added[v]);
            standIns[v] = v;
        }
        simplified = false;
        worked = false;
        findLive();
    }

    /** Arguments have smaller numbers than their operation, so one way down finds them all. */
    private void findLive() {
        for (int v = 0; v < values; v++) {
            live[v] = false;
        }
        for (int v = 0; v < values; v++) {
            if (marked[v]) {
                live[standIns[v]] = true;
            }
        }
        for (int v = values - 1; v >= 0; v--) {
            if (live[v]) {
                makeLive(present[v].first);
                makeLive(present[v].second);
            }
        }
    }

    private void makeLive(int v) {
        if (v != NO_VALUE) {
            live[v] = true;
        }
    }

    private int liveValues() {
        int sum = 0;
        for (int v = 0; v < values; v++) {
            if (live[v]) {
                sum++;
            }
        }
        return sum;
    }

    private int workOfLive() {
        int sum = 0;
        for (int v = 0; v < values; v++) {
            if (live[v]) {
                sum += workOf(present[v]);
            }
        }
        return sum;
    }

    private int workOf(Operation o) {
        if (o.kind <= COUNT) {
            return 0;
        }
        Operation a = present[o.first];
        if (o.kind == DOT) {
            return o.rows * o.columns * a.columns;
        }
        return o.kind == SUM ? a.rows * a.columns : o.rows * o.columns;
    }

    private void replaceArguments(Operation o) {
        if (o.first != NO_VALUE) {
            o.first = standIns[o.first];
        }
        if (o.second != NO_VALUE) {
            o.second = standIns[o.second];
        }
        if (o.takesPairs() && o.first > o.second) {
            int greater = o.first;
            o.first = o.second;
            o.second = greater;
        }
    }

    /** Uses the first rule that fits, and ALIKE also where that left v with another operation. */
    private int standInByRules(int v) {
        Operation o = present[v];
        if (hasOnlySplats(o)) {
            uses[FOLD]++;
            o.becomeSplat(foldedCell(o));
            return alikeOrItself(v);
        }
        int other = neutralOther(o);
        if (other != NO_VALUE) {
            uses[NEUTRAL]++;
            return other;
        }
        if (o.kind == MUL && (isSplat(o.first, 0) || isSplat(o.second, 0))) {
            uses[ZERO]++;
            o.becomeSplat(0);
            return alikeOrItself(v);
        }
        if (o.kind == MAX && o.first == o.second) {
            uses[SAME]++;
            return o.first;
        }
        int inner = twiceInner(o);
        if (inner != NO_VALUE) {
            uses[TWICE]++;
            if (o.hasShapeOf(present[inner])) {
                return inner;
            }
            o.first = inner;
        }
        return alikeOrItself(v);
    }

    private boolean isSplat(int v, int number) {
        return present[v].isSplatOf(number);
    }

    private boolean hasOnlySplats(Operation o) {
        if (o.first == NO_VALUE || present[o.first].kind != SPLAT) {
            return false;
        }
        return o.second == NO_VALUE || present[o.second].kind == SPLAT;
    }

    /** Of SPLATS every kind makes a matrix whose cells are all the same. */
    private int foldedCell(Operation o) {
        Operation a = present[o.first];
        int x = a.p;
        int y = o.second == NO_VALUE ? 0 : present[o.second].p;
        switch (o.kind) {
            case ADD: return x + y;
            case MUL: return x * y;
            case MAX: return Math.max(x, y);
            case NEG: return -x;
            case DOT: return x * y * a.columns;
            case SUM: return x * (o.p == 0 ? a.rows : a.columns);
            default: return x;
        }
    }

    private int neutralOther(Operation o) {
        if (o.isReshaping()) {
            return o.hasShapeOf(present[o.first]) ? o.first : NO_VALUE;
        }
        if (o.kind != ADD && o.kind != MUL) {
            return NO_VALUE;
        }
        int neutral = o.kind == ADD ? 0 : 1;
        if (isSplat(o.first, neutral)) {
            return o.second;
        }
        return isSplat(o.second, neutral) ? o.first : NO_VALUE;
    }

    /** The argument's argument, where both operations are the same of NEG, TURN and FLAT. */
    private int twiceInner(Operation o) {
        if (o.kind != NEG && o.kind != TURN && o.kind != FLAT) {
            return NO_VALUE;
        }
        Operation a = present[o.first];
        return a.kind == o.kind ? a.first : NO_VALUE;
    }

    private int alikeOrItself(int v) {
        for (int u = 0; u < v; u++) {
            if (standIns[u] == u && present[u].isLike(present[v])) {
                uses[ALIKE]++;
                return u;
            }
        }
        return v;
    }

    private void workOut(int v) {
        Operation o = present[v];
        for (int i = 0; i < o.rows; i++) {
            for (int j = 0; j < o.columns; j++) {
                cells[v][i * o.columns + j] = workedCell(o, i, j);
            }
        }
    }

    private int workedCell(Operation o, int i, int j) {
        switch (o.kind) {
            case PARAMETER: return parameters[o.p][i * SIDE + j];
            case SPLAT: return o.p;
            case COUNT: return o.p == 0 ? i : j;
            case ADD: return cellAt(o.first, i, j) + cellAt(o.second, i, j);
            case MUL: return cellAt(o.first, i, j) * cellAt(o.second, i, j);
            case MAX: return Math.max(cellAt(o.first, i, j), cellAt(o.second, i, j));
            case NEG: return -cellAt(o.first, i, j);
            case TURN: return cellAt(o.first, j, i);
            case DOT: return dotCell(o, i, j);
            case SUM: return o.p == 0 ? sumOfColumn(o.first, j) : sumOfRow(o.first, i);
            case SPREAD: return spreadCell(o.first, i, j);
            case FLAT: return cells[o.first][i * o.columns + j];
            default: return cellAt(o.first, o.p + i, o.q + j);
        }
    }

    private int cellAt(int v, int i, int j) {
        return cells[v][i * present[v].columns + j];
    }

    private int dotCell(Operation o, int i, int j) {
        int sum = 0;
        for (int k = 0; k < present[o.first].columns; k++) {
            sum += cellAt(o.first, i, k) * cellAt(o.second, k, j);
        }
        return sum;
    }

    private int sumOfColumn(int v, int j) {
        int sum = 0;
        for (int i = 0; i < present[v].rows; i++) {
            sum += cellAt(v, i, j);
        }
        return sum;
    }

    private int sumOfRow(int v, int i) {
        int sum = 0;
        for (int j = 0; j < present[v].columns; j++) {
            sum += cellAt(v, i, j);
        }
        return sum;
    }

    private int spreadCell(int v, int i, int j) {
        return cellAt(v, present[v].rows == 1 ? 0 : i, present[v].columns == 1 ? 0 : j);
    }
}
