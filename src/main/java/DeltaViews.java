/** Tables of rows with weights, and nodes over them that are made anew by each step. */
public final class DeltaViews {
    public static final int REFUSED = -1;
    public static final int FULL = -2;
    public static final long NONE = -1000000000000L;

    private static final int TABLES = 3;
    private static final int COLUMNS = 3;
    private static final int MOST_NODES = 10;
    private static final int MOST_TABLE_ROWS = 12;
    private static final int MOST_NODE_ROWS = 24;
    private static final int MOST_PENDING = 12;
    private static final int MOST_BY = 3;
    private static final long MOST_WEIGHT = 1000000L;

    private static final int TESTS = 4;
    private static final int MAP_CODES = 6;
    private static final int JOIN_CODES = 6;
    private static final int PICKS = JOIN_CODES * JOIN_CODES * JOIN_CODES;
    private static final int COMBINE_KINDS = 2;
    private static final int GROUP_KINDS = 4;

    private static final int COUNT_NODES = 0;
    private static final int COUNT_PENDING = 1;
    private static final int COUNT_TABLES = 2;

    // Slots 0 .. 2 are the tables, the slots behind them the nodes. A step fills the
    // other array and swaps the two at its end, so one that fails has changed nothing.
    private Rows[] now;
    private Rows[] next;
    private final Rows work;
    private final Pending pending;
    private final Rule[] rules;
    private final int[] changedRows;
    private int nodes;

    public DeltaViews() {
        now = emptySlots();
        next = emptySlots();
        // A join may pair all rows with all, and only the sums of the pairs must keep the limits.
        work = new Rows(MOST_NODE_ROWS * MOST_NODE_ROWS);
        pending = new Pending();
        rules = new Rule[MOST_NODES];
        changedRows = new int[MOST_NODES];
        nodes = 0;
    }

    public int table(int table) {
        if (!isTable(table)) {
            return REFUSED;
        }
        return make(new TableRule(table));
    }

    public int filter(int node, int column, int test, int number) {
        if (!isNode(node) || !isColumn(column) || !isBelow(test, TESTS)) {
            return REFUSED;
        }
        return make(new FilterRule(slotOf(node), column, test, number));
    }

    public int map(int node, int x, int y, int z) {
        if (!isNode(node) || !isBelow(x, MAP_CODES) || !isBelow(y, MAP_CODES) || !isBelow(z, MAP_CODES)) {
            return REFUSED;
        }
        return make(new MapRule(slotOf(node), x, y, z));
    }

    public int join(int left, int right, int leftColumn, int rightColumn, int pick) {
        if (!isNode(left) || !isNode(right) || !isColumn(leftColumn) || !isColumn(rightColumn)
                || !isBelow(pick, PICKS)) {
            return REFUSED;
        }
        return make(new JoinRule(slotOf(left), slotOf(right), leftColumn, rightColumn, pick));
    }

    public int combine(int left, int right, int kind) {
        if (!isNode(left) || !isNode(right) || !isBelow(kind, COMBINE_KINDS)) {
            return REFUSED;
        }
        return make(new CombineRule(slotOf(left), slotOf(right), kind));
    }

    public int distinct(int node) {
        if (!isNode(node)) {
            return REFUSED;
        }
        return make(new DistinctRule(slotOf(node)));
    }

    public int group(int node, int key, int column, int kind) {
        if (!isNode(node) || !isColumn(key) || !isColumn(column) || !isBelow(kind, GROUP_KINDS)) {
            return REFUSED;
        }
        return make(new GroupRule(slotOf(node), key, column, kind));
    }

    public int change(int table, int a, int b, int c, int by) {
        if (!isTable(table) || by < -MOST_BY || by > MOST_BY || by == 0) {
            return REFUSED;
        }
        if (pending.size() >= MOST_PENDING) {
            return FULL;
        }
        pending.append(table, a, b, c, by);
        return pending.size();
    }

    public int step() {
        if (wouldFallBelowZero()) {
            return REFUSED;
        }
        if (!fillNextTables()) {
            return FULL;
        }
        for (int node = 0; node < nodes; node++) {
            if (!fillNode(rules[node], next, node)) {
                return FULL;
            }
        }
        Rows[] before = now;
        now = next;
        next = before;
        pending.clear();
        return noteChangesSince(before);
    }

    public int drop() {
        int dropped = pending.size();
        pending.clear();
        return dropped;
    }

    public long weight(int node, int a, int b, int c) {
        return isNode(node) ? rowsOf(node).weightOf(a, b, c) : NONE;
    }

    public long inTable(int table, int a, int b, int c) {
        return isTable(table) ? now[table].weightOf(a, b, c) : NONE;
    }

    public int rows(int node) {
        return isNode(node) ? rowsOf(node).size() : REFUSED;
    }

    public long cell(int node, int i, int column) {
        if (!isNode(node) || !isColumn(column) || !isBelow(i, rowsOf(node).size())) {
            return NONE;
        }
        return rowsOf(node).valueAt(i, column);
    }

    public long total(int node) {
        return isNode(node) ? rowsOf(node).sumOfWeights() : NONE;
    }

    public int changed(int node) {
        return isNode(node) ? changedRows[node] : REFUSED;
    }

    public double mean(int node, int column) {
        if (!isNode(node) || !isColumn(column)) {
            return 0.0;
        }
        long t = rowsOf(node).sumOfWeights();
        if (t == 0) {
            return 0.0;
        }
        return (double) rowsOf(node).weightedSum(column) / (double) t;
    }

    public int count(int what) {
        if (what == COUNT_NODES) {
            return nodes;
        }
        if (what == COUNT_PENDING) {
            return pending.size();
        }
        if (what >= COUNT_TABLES && what < COUNT_TABLES + TABLES) {
            return now[what - COUNT_TABLES].size();
        }
        return REFUSED;
    }

    private static Rows[] emptySlots() {
        Rows[] slots = new Rows[TABLES + MOST_NODES];
        for (int slot = 0; slot < slots.length; slot++) {
            slots[slot] = new Rows(slot < TABLES ? MOST_TABLE_ROWS : MOST_NODE_ROWS);
        }
        return slots;
    }

    private static boolean isBelow(int number, int bound) {
        return number >= 0 && number < bound;
    }

    private static boolean isColumn(int column) {
        return isBelow(column, COLUMNS);
    }

    private static boolean isTable(int table) {
        return isBelow(table, TABLES);
    }

    private boolean isNode(int node) {
        return isBelow(node, nodes);
    }

    private static int slotOf(int node) {
        return TABLES + node;
    }

    private Rows rowsOf(int node) {
        return now[slotOf(node)];
    }

    private int make(Rule rule) {
        if (nodes >= MOST_NODES || !fillNode(rule, now, nodes)) {
            return FULL;
        }
        int node = nodes;
        rules[node] = rule;
        changedRows[node] = 0;
        nodes++;
        return node;
    }

    private boolean fillNode(Rule rule, Rows[] slots, int node) {
        work.clear();
        rule.fill(slots, work);
        return settleWork(slots[slotOf(node)]);
    }

    private boolean settleWork(Rows target) {
        work.dropZeros();
        if (!target.canHold(work)) {
            return false;
        }
        target.copyFrom(work);
        return true;
    }

    private void gatherTable(int table) {
        work.copyFrom(now[table]);
        pending.addTo(work, table);
    }

    // All tables are looked at for REFUSED before any is looked at for FULL.
    private boolean wouldFallBelowZero() {
        for (int table = 0; table < TABLES; table++) {
            gatherTable(table);
            if (work.hasBelowZero()) {
                return true;
            }
        }
        return false;
    }

    private boolean fillNextTables() {
        for (int table = 0; table < TABLES; table++) {
            gatherTable(table);
            if (!settleWork(next[table])) {
                return false;
            }
        }
        return true;
    }

    private int noteChangesSince(Rows[] before) {
        int sum = 0;
        for (int node = 0; node < nodes; node++) {
            int slot = slotOf(node);
            changedRows[node] = now[slot].differencesFrom(before[slot]);
            sum += changedRows[node];
        }
        return sum;
    }

    /** A collection: its rows in their order, each once, with their weights. */
    private static final class Rows {
        private final int[] values;
        private final long[] weights;
        private int size;

        Rows(int capacity) {
            values = new int[capacity * COLUMNS];
            weights = new long[capacity];
            size = 0;
        }

        int size() {
            return size;
        }

        int valueAt(int i, int column) {
            return values[i * COLUMNS + column];
        }

        long weightAt(int i) {
            return weights[i];
        }

        long weightOf(int a, int b, int c) {
            int place = placeOf(a, b, c);
            return isAt(place, a, b, c) ? weights[place] : 0L;
        }

        void clear() {
            size = 0;
        }

        void addWeight(int a, int b, int c, long by) {
            int place = placeOf(a, b, c);
            if (isAt(place, a, b, c)) {
                weights[place] += by;
            } else if (size < weights.length) {
                insertAt(place, a, b, c, by);
            }
        }

        void addRow(Rows from, int i, long by) {
            addWeight(from.valueAt(i, 0), from.valueAt(i, 1), from.valueAt(i, 2), by);
        }

        void copyFrom(Rows other) {
            size = Math.min(other.size, weights.length);
            System.arraycopy(other.values, 0, values, 0, size * COLUMNS);
            System.arraycopy(other.weights, 0, weights, 0, size);
        }

        void dropZeros() {
            int kept = 0;
            for (int i = 0; i < size; i++) {
                if (weights[i] != 0) {
                    System.arraycopy(values, i * COLUMNS, values, kept * COLUMNS, COLUMNS);
                    weights[kept] = weights[i];
                    kept++;
                }
            }
            size = kept;
        }

        boolean hasBelowZero() {
            for (int i = 0; i < size; i++) {
                if (weights[i] < 0) {
                    return true;
                }
            }
            return false;
        }

        /** Would this keep the LIMITS with the other's rows? Its capacity is its limit of rows. */
        boolean canHold(Rows other) {
            if (other.size > weights.length) {
                return false;
            }
            for (int i = 0; i < other.size; i++) {
                if (other.weights[i] > MOST_WEIGHT || other.weights[i] < -MOST_WEIGHT) {
                    return false;
                }
            }
            return true;
        }

        long sumOfWeights() {
            long sum = 0L;
            for (int i = 0; i < size; i++) {
                sum += weights[i];
            }
            return sum;
        }

        long weightedSum(int column) {
            long sum = 0L;
            for (int i = 0; i < size; i++) {
                sum += weights[i] * valueAt(i, column);
            }
            return sum;
        }

        int differencesFrom(Rows other) {
            int differences = 0;
            for (int i = 0; i < size; i++) {
                if (other.weightOf(valueAt(i, 0), valueAt(i, 1), valueAt(i, 2)) != weights[i]) {
                    differences++;
                }
            }
            for (int i = 0; i < other.size; i++) {
                if (weightOf(other.valueAt(i, 0), other.valueAt(i, 1), other.valueAt(i, 2)) == 0) {
                    differences++;
                }
            }
            return differences;
        }

        /** The place of the first row that does not come before the one asked for. */
        private int placeOf(int a, int b, int c) {
            int low = 0;
            int high = size;
            while (low < high) {
                int middle = (low + high) / 2;
                if (compareAt(middle, a, b, c) < 0) {
                    low = middle + 1;
                } else {
                    high = middle;
                }
            }
            return low;
        }

        private boolean isAt(int place, int a, int b, int c) {
            return place < size && compareAt(place, a, b, c) == 0;
        }

        private int compareAt(int i, int a, int b, int c) {
            int start = i * COLUMNS;
            if (values[start] != a) {
                return values[start] < a ? -1 : 1;
            }
            if (values[start + 1] != b) {
                return values[start + 1] < b ? -1 : 1;
            }
            if (values[start + 2] != c) {
                return values[start + 2] < c ? -1 : 1;
            }
            return 0;
        }

        private void insertAt(int place, int a, int b, int c, long weight) {
            int start = place * COLUMNS;
            System.arraycopy(values, start, values, start + COLUMNS, (size - place) * COLUMNS);
            System.arraycopy(weights, place, weights, place + 1, size - place);
            values[start] = a;
            values[start + 1] = b;
            values[start + 2] = c;
            weights[place] = weight;
            size++;
        }
    }

    /** The list of changes that the next step does. */
    private static final class Pending {
        private final int[] tables = new int[MOST_PENDING];
        private final int[] values = new int[MOST_PENDING * COLUMNS];
        private final int[] bys = new int[MOST_PENDING];
        private int size = 0;

        int size() {
            return size;
        }

        void clear() {
            size = 0;
        }

        void append(int table, int a, int b, int c, int by) {
            if (size >= MOST_PENDING) {
                return;
            }
            int start = size * COLUMNS;
            tables[size] = table;
            values[start] = a;
            values[start + 1] = b;
            values[start + 2] = c;
            bys[size] = by;
            size++;
        }

        void addTo(Rows out, int table) {
            for (int i = 0; i < size; i++) {
                if (tables[i] == table) {
                    int start = i * COLUMNS;
                    out.addWeight(values[start], values[start + 1], values[start + 2], bys[i]);
                }
            }
        }
    }

    /** How a node follows from the slots before it. */
    private interface Rule {
        /** Adds the node's rows to an empty out, where sums of 0 may be left behind. */
        void fill(Rows[] slots, Rows out);
    }

    private record TableRule(int input) implements Rule {
        public void fill(Rows[] slots, Rows out) {
            out.copyFrom(slots[input]);
        }
    }

    private record FilterRule(int input, int column, int test, int number) implements Rule {
        public void fill(Rows[] slots, Rows out) {
            Rows in = slots[input];
            for (int i = 0; i < in.size(); i++) {
                if (lets(in.valueAt(i, column))) {
                    out.addRow(in, i, in.weightAt(i));
                }
            }
        }

        private boolean lets(int value) {
            switch (test) {
                case 0:
                    return value == number;
                case 1:
                    return value < number;
                case 2:
                    return value > number;
                default:
                    return value != number;
            }
        }
    }

    private record MapRule(int input, int x, int y, int z) implements Rule {
        public void fill(Rows[] slots, Rows out) {
            Rows in = slots[input];
            for (int i = 0; i < in.size(); i++) {
                out.addWeight(coded(in, i, x), coded(in, i, y), coded(in, i, z), in.weightAt(i));
            }
        }

        private static int coded(Rows in, int i, int code) {
            switch (code) {
                case 3:
                    return 0;
                case 4:
                    return in.valueAt(i, 0) + in.valueAt(i, 1);
                case 5:
                    return in.valueAt(i, 0) - in.valueAt(i, 1);
                default:
                    return in.valueAt(i, code);
            }
        }
    }

    private record JoinRule(int left, int right, int leftColumn, int rightColumn, int pick) implements Rule {
        public void fill(Rows[] slots, Rows out) {
            Rows l = slots[left];
            Rows r = slots[right];
            int x = pick / (JOIN_CODES * JOIN_CODES);
            int y = pick / JOIN_CODES % JOIN_CODES;
            int z = pick % JOIN_CODES;
            for (int i = 0; i < l.size(); i++) {
                for (int j = 0; j < r.size(); j++) {
                    if (l.valueAt(i, leftColumn) == r.valueAt(j, rightColumn)) {
                        out.addWeight(picked(l, i, r, j, x), picked(l, i, r, j, y), picked(l, i, r, j, z),
                                l.weightAt(i) * r.weightAt(j));
                    }
                }
            }
        }

        private static int picked(Rows l, int i, Rows r, int j, int code) {
            return code < COLUMNS ? l.valueAt(i, code) : r.valueAt(j, code - COLUMNS);
        }
    }

    private record CombineRule(int left, int right, int kind) implements Rule {
        public void fill(Rows[] slots, Rows out) {
            out.copyFrom(slots[left]);
            Rows r = slots[right];
            long sign = kind == 0 ? 1L : -1L;
            for (int i = 0; i < r.size(); i++) {
                out.addRow(r, i, sign * r.weightAt(i));
            }
        }
    }

    private record DistinctRule(int input) implements Rule {
        public void fill(Rows[] slots, Rows out) {
            Rows in = slots[input];
            for (int i = 0; i < in.size(); i++) {
                if (in.weightAt(i) > 0) {
                    out.addRow(in, i, 1L);
                }
            }
        }
    }

    private record GroupRule(int input, int key, int column, int kind) implements Rule {
        public void fill(Rows[] slots, Rows out) {
            Rows in = slots[input];
            for (int i = 0; i < in.size(); i++) {
                if (in.weightAt(i) > 0 && isFirstOfItsKey(in, i)) {
                    out.addWeight(in.valueAt(i, key), valueFrom(in, i), 0, 1L);
                }
            }
        }

        private boolean isFirstOfItsKey(Rows in, int i) {
            for (int j = 0; j < i; j++) {
                if (isWith(in, j, in.valueAt(i, key))) {
                    return false;
                }
            }
            return true;
        }

        private boolean isWith(Rows in, int i, int k) {
            return in.weightAt(i) > 0 && in.valueAt(i, key) == k;
        }

        private int valueFrom(Rows in, int first) {
            int k = in.valueAt(first, key);
            int value = startValue(in, first);
            for (int i = first + 1; i < in.size(); i++) {
                if (isWith(in, i, k)) {
                    value = joined(value, startValue(in, i));
                }
            }
            return value;
        }

        private int startValue(Rows in, int i) {
            switch (kind) {
                case 0:
                    return (int) in.weightAt(i);
                case 1:
                    return (int) (in.weightAt(i) * in.valueAt(i, column));
                default:
                    return in.valueAt(i, column);
            }
        }

        private int joined(int one, int other) {
            switch (kind) {
                case 2:
                    return Math.min(one, other);
                case 3:
                    return Math.max(one, other);
                default:
                    return one + other;
            }
        }
    }
}
