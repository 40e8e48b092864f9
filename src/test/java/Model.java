import java.math.BigInteger;
import java.util.ArrayList;
import java.util.Comparator;
import java.util.HashMap;
import java.util.List;
import java.util.Map;
import java.util.TreeMap;

/** The document's words, written down with maps and big numbers, for ModelTest to compare with. */
final class Model {
    private static final BigInteger MOST = BigInteger.valueOf(1000000);

    record Row(int a, int b, int c) {
        int column(int column) {
            return column == 0 ? a : column == 1 ? b : c;
        }
    }

    private record Change(int table, Row row, int by) {
    }

    /** A collection; a row that is not a key has weight 0, and no key has. */
    private static final class Bag extends TreeMap<Row, BigInteger> {
        private static final long serialVersionUID = 1L;

        Bag() {
            super(Comparator.comparingInt(Row::a).thenComparingInt(Row::b).thenComparingInt(Row::c));
        }

        void give(Row row, BigInteger weight) {
            BigInteger sum = getOrDefault(row, BigInteger.ZERO).add(weight);
            if (sum.signum() == 0) {
                remove(row);
            } else {
                put(row, sum);
            }
        }

        BigInteger of(Row row) {
            return getOrDefault(row, BigInteger.ZERO);
        }

        boolean keepsLimits(int mostRows) {
            return size() <= mostRows && values().stream().allMatch(w -> w.abs().compareTo(MOST) <= 0);
        }
    }

    private interface Kind {
        Bag from(List<Bag> tables, List<Bag> nodes);
    }

    private List<Bag> tables = new ArrayList<>(List.of(new Bag(), new Bag(), new Bag()));
    private List<Bag> nodes = new ArrayList<>();
    private final List<Kind> kinds = new ArrayList<>();
    private final List<Integer> changedRows = new ArrayList<>();
    private final List<Change> pending = new ArrayList<>();

    private static boolean in(int number, int least, int most) {
        return least <= number && number <= most;
    }

    private boolean made(int node) {
        return in(node, 0, nodes.size() - 1);
    }

    private int make(Kind kind) {
        if (nodes.size() == 10) {
            return -2;
        }
        Bag bag = kind.from(tables, nodes);
        if (!bag.keepsLimits(24)) {
            return -2;
        }
        nodes.add(bag);
        kinds.add(kind);
        changedRows.add(0);
        return nodes.size() - 1;
    }

    int table(int table) {
        if (!in(table, 0, 2)) {
            return -1;
        }
        return make((t, n) -> t.get(table));
    }

    int filter(int node, int column, int test, int number) {
        if (!made(node) || !in(column, 0, 2) || !in(test, 0, 3)) {
            return -1;
        }
        return make((t, n) -> {
            Bag out = new Bag();
            n.get(node).forEach((row, weight) -> {
                int order = Integer.compare(row.column(column), number);
                boolean[] holds = {order == 0, order < 0, order > 0, order != 0};
                if (holds[test]) {
                    out.give(row, weight);
                }
            });
            return out;
        });
    }

    int map(int node, int x, int y, int z) {
        if (!made(node) || !in(x, 0, 5) || !in(y, 0, 5) || !in(z, 0, 5)) {
            return -1;
        }
        return make((t, n) -> {
            Bag out = new Bag();
            n.get(node).forEach((row, weight) -> {
                int[] codes = {row.a, row.b, row.c, 0, row.a + row.b, row.a - row.b};
                out.give(new Row(codes[x], codes[y], codes[z]), weight);
            });
            return out;
        });
    }

    int join(int left, int right, int leftColumn, int rightColumn, int pick) {
        if (!made(left) || !made(right) || !in(leftColumn, 0, 2) || !in(rightColumn, 0, 2) || !in(pick, 0, 215)) {
            return -1;
        }
        return make((t, n) -> {
            Bag out = new Bag();
            n.get(left).forEach((l, lw) -> n.get(right).forEach((r, rw) -> {
                if (l.column(leftColumn) == r.column(rightColumn)) {
                    int[] codes = {l.a, l.b, l.c, r.a, r.b, r.c};
                    out.give(new Row(codes[pick / 36], codes[pick % 36 / 6], codes[pick % 6]), lw.multiply(rw));
                }
            }));
            return out;
        });
    }

    int combine(int left, int right, int kind) {
        if (!made(left) || !made(right) || !in(kind, 0, 1)) {
            return -1;
        }
        return make((t, n) -> {
            Bag out = new Bag();
            n.get(left).forEach(out::give);
            n.get(right).forEach((row, weight) -> out.give(row, kind == 0 ? weight : weight.negate()));
            return out;
        });
    }

    int distinct(int node) {
        if (!made(node)) {
            return -1;
        }
        return make((t, n) -> {
            Bag out = new Bag();
            n.get(node).forEach((row, weight) -> {
                if (weight.signum() > 0) {
                    out.give(row, BigInteger.ONE);
                }
            });
            return out;
        });
    }

    int group(int node, int key, int column, int kind) {
        if (!made(node) || !in(key, 0, 2) || !in(column, 0, 2) || !in(kind, 0, 3)) {
            return -1;
        }
        return make((t, n) -> {
            Map<Integer, List<Map.Entry<Row, BigInteger>>> byKey = new HashMap<>();
            for (Map.Entry<Row, BigInteger> entry : n.get(node).entrySet()) {
                if (entry.getValue().signum() > 0) {
                    byKey.computeIfAbsent(entry.getKey().column(key), k -> new ArrayList<>()).add(entry);
                }
            }
            Bag out = new Bag();
            byKey.forEach((k, members) -> out.give(new Row(k, summary(members, column, kind), 0), BigInteger.ONE));
            return out;
        });
    }

    private static int summary(List<Map.Entry<Row, BigInteger>> members, int column, int kind) {
        BigInteger weights = BigInteger.ZERO;
        BigInteger sum = BigInteger.ZERO;
        int least = Integer.MAX_VALUE;
        int greatest = Integer.MIN_VALUE;
        for (Map.Entry<Row, BigInteger> member : members) {
            int value = member.getKey().column(column);
            weights = weights.add(member.getValue());
            sum = sum.add(member.getValue().multiply(BigInteger.valueOf(value)));
            least = Math.min(least, value);
            greatest = Math.max(greatest, value);
        }
        return new int[] {weights.intValue(), sum.intValue(), least, greatest}[kind];
    }

    int change(int table, int a, int b, int c, int by) {
        if (!in(table, 0, 2) || !in(by, -3, 3) || by == 0) {
            return -1;
        }
        if (pending.size() == 12) {
            return -2;
        }
        pending.add(new Change(table, new Row(a, b, c), by));
        return pending.size();
    }

    int step() {
        List<Bag> nextTables = new ArrayList<>();
        for (Bag table : tables) {
            Bag copy = new Bag();
            copy.putAll(table);
            nextTables.add(copy);
        }
        for (Change change : pending) {
            nextTables.get(change.table).give(change.row, BigInteger.valueOf(change.by));
        }
        if (nextTables.stream().anyMatch(t -> t.values().stream().anyMatch(w -> w.signum() < 0))) {
            return -1;
        }
        if (!nextTables.stream().allMatch(t -> t.keepsLimits(12))) {
            return -2;
        }
        List<Bag> nextNodes = new ArrayList<>();
        for (Kind kind : kinds) {
            Bag bag = kind.from(nextTables, nextNodes);
            if (!bag.keepsLimits(24)) {
                return -2;
            }
            nextNodes.add(bag);
        }
        int sum = 0;
        for (int node = 0; node < nodes.size(); node++) {
            changedRows.set(node, differences(nodes.get(node), nextNodes.get(node)));
            sum += changedRows.get(node);
        }
        tables = nextTables;
        nodes = nextNodes;
        pending.clear();
        return sum;
    }

    private static int differences(Bag one, Bag other) {
        Bag difference = new Bag();
        one.forEach(difference::give);
        other.forEach((row, weight) -> difference.give(row, weight.negate()));
        return difference.size();
    }

    int drop() {
        int dropped = pending.size();
        pending.clear();
        return dropped;
    }

    long weight(int node, int a, int b, int c) {
        return made(node) ? nodes.get(node).of(new Row(a, b, c)).longValueExact() : -1000000000000L;
    }

    long inTable(int table, int a, int b, int c) {
        return in(table, 0, 2) ? tables.get(table).of(new Row(a, b, c)).longValueExact() : -1000000000000L;
    }

    int rows(int node) {
        return made(node) ? nodes.get(node).size() : -1;
    }

    long cell(int node, int i, int column) {
        if (!made(node) || !in(column, 0, 2) || !in(i, 0, nodes.get(node).size() - 1)) {
            return -1000000000000L;
        }
        return new ArrayList<>(nodes.get(node).keySet()).get(i).column(column);
    }

    long total(int node) {
        if (!made(node)) {
            return -1000000000000L;
        }
        return nodes.get(node).values().stream().reduce(BigInteger.ZERO, BigInteger::add).longValueExact();
    }

    int changed(int node) {
        return made(node) ? changedRows.get(node) : -1;
    }

    double mean(int node, int column) {
        if (!made(node) || !in(column, 0, 2) || total(node) == 0) {
            return 0.0;
        }
        BigInteger sum = BigInteger.ZERO;
        for (Map.Entry<Row, BigInteger> entry : nodes.get(node).entrySet()) {
            sum = sum.add(entry.getValue().multiply(BigInteger.valueOf(entry.getKey().column(column))));
        }
        return (double) sum.longValueExact() / (double) total(node);
    }

    int count(int what) {
        switch (what) {
            case 0:
                return nodes.size();
            case 1:
                return pending.size();
            case 2:
            case 3:
            case 4:
                return tables.get(what - 2).size();
            default:
                return -1;
        }
    }
}
