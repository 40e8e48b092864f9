/** Runs of mixed calls, the same ones every time, on the class and on the model. */
public final class ModelTest {
    private static final int RUNS = 12000;
    private static final int MOST_CALLS = 512;
    // One round makes a step and reads a whole node: 24 rows of 4 calls, and some more.
    private static final int MOST_CALLS_OF_A_ROUND = 112;
    private static final int[] EDGES = {
        Integer.MIN_VALUE, Integer.MIN_VALUE + 1, -1000000, -1, 0, 1, 1000000, Integer.MAX_VALUE,
    };

    private final DeltaViews x = new DeltaViews();
    private final Model model = new Model();
    private final int run;
    private final int values;
    private final int callsBeforeNodes;
    private long state;
    private int calls = 0;
    private int madeFull = 0;
    private int stepsDone = 0;
    private int stepsRefused = 0;
    private int stepsFull = 0;

    private ModelTest(int run) {
        this.run = run;
        this.values = 1 + run % 6;
        this.callsBeforeNodes = run / 6 % 3 * 60;
        this.state = 0x9E3779B97F4A7C15L * (run + 1);
    }

    public static void main(String[] args) {
        int madeFull = 0;
        int done = 0;
        int refused = 0;
        int full = 0;
        for (int run = 0; run < RUNS; run++) {
            ModelTest test = new ModelTest(run);
            while (test.calls + MOST_CALLS_OF_A_ROUND <= MOST_CALLS) {
                test.round();
            }
            while (test.calls < MOST_CALLS) {
                test.oneCall();
            }
            madeFull += test.madeFull;
            done += test.stepsDone;
            refused += test.stepsRefused;
            full += test.stepsFull;
        }
        System.out.println("steps done " + done + ", refused " + refused + ", full " + full
                + "; nodes not made for the limits " + madeFull);
        Check.due("every kind of end came up", Math.min(Math.min(done, refused), Math.min(full, madeFull)) > 100 ? 1 : 0, 1);
        Check.end();
    }

    /** A number from 0 to below the bound, from a fixed sequence. */
    private int below(int bound) {
        state = state * 6364136223846793005L + 1442695040888963407L;
        return (int) ((state >>> 33) % bound);
    }

    /** Mostly a number that is in range, now and then one just beyond it. */
    private int about(int bound) {
        return below(40) == 0 ? (below(2) == 0 ? -1 : bound) : below(Math.max(1, bound));
    }

    private int value() {
        return below(12) == 0 ? EDGES[below(EDGES.length)] : below(values);
    }

    private int node() {
        return about(model.count(0));
    }

    private int by() {
        return below(30) == 0 ? below(11) - 5 : below(8) == 0 ? -1 - below(2) : 1 + below(3);
    }

    private void due(String call, long got, long want) {
        calls++;
        Check.due("run " + run + ": " + call, got, want);
    }

    private void round() {
        int kind = below(100);
        if (kind < 15 && calls >= callsBeforeNodes) {
            makeNode();
        } else if (kind < 70) {
            change();
        } else if (kind < 92) {
            step();
        } else if (kind < 93) {
            due("drop", x.drop(), model.drop());
        } else {
            read();
        }
    }

    /** A run comes to its very last call by these; a step that fails leaves its changes pending. */
    private void oneCall() {
        int kind = below(10);
        if (kind < 5) {
            change();
        } else if (kind < 7) {
            due("step", x.step(), model.step());
        } else if (kind == 7) {
            int node = node();
            due("total", x.total(node), model.total(node));
        } else if (kind == 8) {
            int node = node();
            due("changed", x.changed(node), model.changed(node));
        } else {
            int what = about(5);
            due("count", x.count(what), model.count(what));
        }
    }

    private void makeNode() {
        int kind = model.count(0) == 0 ? 0 : below(9);
        int node = node();
        int other = node();
        int got;
        int want;
        if (kind <= 1) {
            int table = about(3);
            got = x.table(table);
            want = model.table(table);
        } else if (kind == 2) {
            int column = about(3);
            int test = about(4);
            int number = value();
            got = x.filter(node, column, test, number);
            want = model.filter(node, column, test, number);
        } else if (kind == 3) {
            int[] codes = {about(6), about(6), about(6)};
            got = x.map(node, codes[0], codes[1], codes[2]);
            want = model.map(node, codes[0], codes[1], codes[2]);
        } else if (kind <= 5) {
            int[] numbers = {about(3), about(3), about(216)};
            got = x.join(node, other, numbers[0], numbers[1], numbers[2]);
            want = model.join(node, other, numbers[0], numbers[1], numbers[2]);
        } else if (kind == 6) {
            int way = about(2);
            got = x.combine(node, other, way);
            want = model.combine(node, other, way);
        } else if (kind == 7) {
            got = x.distinct(node);
            want = model.distinct(node);
        } else {
            int[] numbers = {about(3), about(3), about(4)};
            got = x.group(node, numbers[0], numbers[1], numbers[2]);
            want = model.group(node, numbers[0], numbers[1], numbers[2]);
        }
        due("making a node of kind " + kind, got, want);
        if (want == -2 && model.count(0) < 10) {
            madeFull++;
        }
        if (want >= 0) {
            readWhole(want);
        }
    }

    private void change() {
        int table = about(3);
        int a = value();
        int b = value();
        int c = value();
        int by = by();
        due("change", x.change(table, a, b, c, by), model.change(table, a, b, c, by));
    }

    private void step() {
        int want = model.step();
        due("step", x.step(), want);
        if (want == -1) {
            stepsRefused++;
            due("drop after a refused step", x.drop(), model.drop());
        } else if (want == -2) {
            stepsFull++;
            due("drop after a full step", x.drop(), model.drop());
        } else {
            stepsDone++;
        }
        if (below(4) == 0) {
            readWhole(below(Math.max(1, model.count(0))));
        }
    }

    private void readWhole(int node) {
        due("rows", x.rows(node), model.rows(node));
        due("total", x.total(node), model.total(node));
        due("changed", x.changed(node), model.changed(node));
        for (int i = 0; i < model.rows(node); i++) {
            int[] row = new int[3];
            for (int column = 0; column < 3; column++) {
                row[column] = (int) model.cell(node, i, column);
                due("cell", x.cell(node, i, column), row[column]);
            }
            due("weight", x.weight(node, row[0], row[1], row[2]), model.weight(node, row[0], row[1], row[2]));
        }
    }

    private void read() {
        int node = node();
        int column = about(3);
        int a = value();
        int b = value();
        int c = value();
        int i = about(Math.max(1, model.rows(node)));
        int table = about(3);
        due("weight", x.weight(node, a, b, c), model.weight(node, a, b, c));
        due("inTable", x.inTable(table, a, b, c), model.inTable(table, a, b, c));
        due("rows", x.rows(node), model.rows(node));
        due("cell", x.cell(node, i, column), model.cell(node, i, column));
        due("total", x.total(node), model.total(node));
        due("changed", x.changed(node), model.changed(node));
        int what = about(5);
        due("count", x.count(what), model.count(what));
        calls++;
        Check.dueDouble("run " + run + ": mean", x.mean(node, column), model.mean(node, column));
    }
}
