/** Promises 12 to 19: the calls that only answer. */
public final class ReadsTest {
    private static final int MIN = Integer.MIN_VALUE;
    private static final int MAX = Integer.MAX_VALUE;

    public static void main(String[] args) {
        weights();
        nodesFarOutOfRange();
        tables();
        rowCounts();
        cells();
        totals();
        changedRows();
        changedOfLaterNodes();
        means();
        counts();
        Check.end();
    }

    /** Node 0 is table 0, node 1 table 1, node 2 the difference. */
    private static DeltaViews difference() {
        DeltaViews x = new DeltaViews();
        x.table(0);
        x.table(1);
        x.combine(0, 1, 1);
        Check.put(x, 0, Check.row(1, 2, 3, 4), Check.row(-1, MIN, MAX, 2));
        Check.put(x, 1, Check.row(1, 2, 4, 7), Check.row(-1, MIN, MAX, 2));
        return x;
    }

    private static void weights() {
        DeltaViews x = difference();
        Check.due("weight", x.weight(2, 1, 2, 3), 4);
        Check.due("weight below 0", x.weight(2, 1, 2, 4), -7);
        Check.due("weight of a row that cancelled", x.weight(2, -1, MIN, MAX), 0);
        Check.due("weight of a row never there", x.weight(2, 3, 2, 1), 0);
        Check.due("weight in its input", x.weight(0, -1, MIN, MAX), 2);
        Check.due("weight: node -1", x.weight(-1, 1, 2, 3), DeltaViews.NONE);
        Check.due("weight: node 3", x.weight(3, 1, 2, 3), DeltaViews.NONE);
    }

    private static void nodesFarOutOfRange() {
        DeltaViews x = difference();
        for (int node : new int[] {MIN, -4, -1, 3, 10, MAX}) {
            String call = " of node " + node;
            Check.due("weight" + call, x.weight(node, 1, 2, 3), DeltaViews.NONE);
            Check.due("rows" + call, x.rows(node), DeltaViews.REFUSED);
            Check.due("cell" + call, x.cell(node, 0, 0), DeltaViews.NONE);
            Check.due("total" + call, x.total(node), DeltaViews.NONE);
            Check.due("changed" + call, x.changed(node), DeltaViews.REFUSED);
            Check.dueDouble("mean" + call, x.mean(node, 0), 0.0);
        }
    }

    private static void tables() {
        DeltaViews x = difference();
        Check.due("inTable", x.inTable(0, 1, 2, 3), 4);
        Check.due("inTable: another table", x.inTable(1, 1, 2, 3), 0);
        Check.due("inTable: a table without a node", x.inTable(2, 1, 2, 3), 0);
        Check.due("inTable: table -1", x.inTable(-1, 1, 2, 3), DeltaViews.NONE);
        Check.due("inTable: table 3", x.inTable(3, 1, 2, 3), DeltaViews.NONE);
        x.change(0, 1, 2, 3, 3);
        Check.due("inTable: pending does not count", x.inTable(0, 1, 2, 3), 4);
        x.step();
        Check.due("inTable: after the step", x.inTable(0, 1, 2, 3), 7);
    }

    private static void rowCounts() {
        DeltaViews x = difference();
        Check.due("rows", x.rows(0), 2);
        Check.due("rows: weights below 0 count, those that cancel do not", x.rows(2), 2);
        Check.due("rows: node -1", x.rows(-1), DeltaViews.REFUSED);
        Check.due("rows: node 3", x.rows(3), DeltaViews.REFUSED);
    }

    private static void cells() {
        DeltaViews x = new DeltaViews();
        x.table(0);
        Check.put(x, 0, Check.row(0, 0, MAX, 1), Check.row(MAX, 0, 0, 1), Check.row(0, -1, 5, 1),
                Check.row(MIN, 9, 9, 1), Check.row(0, 0, MIN, 1), Check.row(0, 0, 0, 1), Check.row(-1, 8, 8, 1));
        Check.dueRows("the order of rows", x, 0, Check.row(MIN, 9, 9, 1), Check.row(-1, 8, 8, 1),
                Check.row(0, -1, 5, 1), Check.row(0, 0, MIN, 1), Check.row(0, 0, 0, 1), Check.row(0, 0, MAX, 1),
                Check.row(MAX, 0, 0, 1));
        Check.due("cell: row -1", x.cell(0, -1, 0), DeltaViews.NONE);
        Check.due("cell: row 7", x.cell(0, 7, 0), DeltaViews.NONE);
        Check.due("cell: row 23", x.cell(0, 23, 0), DeltaViews.NONE);
        Check.due("cell: row MAX", x.cell(0, MAX, 0), DeltaViews.NONE);
        Check.due("cell: row MIN", x.cell(0, MIN, 0), DeltaViews.NONE);
        Check.due("cell: column -1", x.cell(0, 1, -1), DeltaViews.NONE);
        Check.due("cell: column 3", x.cell(0, 0, 3), DeltaViews.NONE);
        Check.due("cell: node -1", x.cell(-1, 0, 0), DeltaViews.NONE);
        Check.due("cell: node 1", x.cell(1, 0, 0), DeltaViews.NONE);
        Check.put(x, 0, Check.row(MIN, 9, 9, -1));
        Check.due("cell: rows move up", x.cell(0, 0, 0), -1);
    }

    private static void totals() {
        DeltaViews x = difference();
        Check.due("total", x.total(0), 6);
        Check.due("total below 0", x.total(2), -3);
        Check.due("total: node -1", x.total(-1), DeltaViews.NONE);
        Check.due("total: node 3", x.total(3), DeltaViews.NONE);
        x.combine(2, 2, 1);
        Check.due("total of nothing", x.total(3), 0);
    }

    private static void changedRows() {
        DeltaViews x = new DeltaViews();
        x.table(0);
        x.group(0, 0, 1, 1);
        x.distinct(0);
        Check.due("changed: no step yet", x.changed(0), 0);
        x.change(0, 1, 5, 0, 1);
        x.change(0, 1, 6, 0, 2);
        x.change(0, 2, 6, 0, 2);
        Check.due("changed: step", x.step(), 3 + 2 + 3);
        Check.due("changed: rows that came", x.changed(0), 3);
        Check.due("changed: groups that came", x.changed(1), 2);
        x.change(0, 1, 5, 0, 1);
        x.change(0, 1, 6, 0, -2);
        x.change(0, 3, 0, 0, 1);
        x.change(0, 2, 6, 0, -1);
        x.change(0, 2, 6, 0, 1);
        Check.due("changed: pending does not count", x.changed(0), 3);
        Check.due("changed: second step", x.step(), 3 + 3 + 2);
        Check.due("changed: one weight, one went, one came", x.changed(0), 3);
        Check.due("changed: a group's row went and another came", x.changed(1), 3);
        Check.due("changed: a weight alone does not change distinct", x.changed(2), 2);
        x.change(0, 9, 9, 9, -1);
        Check.due("changed: a refused step", x.step(), DeltaViews.REFUSED);
        Check.due("changed: a refused step does not count", x.changed(0), 3);
        x.drop();
        Check.due("changed: drop does not count", x.changed(0), 3);
        Check.due("changed: an empty step", x.step(), 0);
        Check.due("changed: an empty step counts", x.changed(0), 0);
        Check.due("changed: node -1", x.changed(-1), DeltaViews.REFUSED);
        Check.due("changed: node 3", x.changed(3), DeltaViews.REFUSED);
    }

    private static void changedOfLaterNodes() {
        DeltaViews x = new DeltaViews();
        x.table(0);
        Check.put(x, 0, Check.row(1, 1, 1, 1), Check.row(2, 2, 2, 2));
        x.table(0);
        Check.due("changed: made after the step", x.changed(1), 0);
        Check.due("changed: made before it", x.changed(0), 2);
        x.change(0, 1, 1, 1, 1);
        Check.due("changed: the step after both", x.step(), 2);
        Check.due("changed: against the rows it was made with", x.changed(1), 1);
    }

    private static void means() {
        DeltaViews x = difference();
        Check.dueDouble("mean", x.mean(0, 0), 2.0 / 6.0);
        Check.dueDouble("mean of great numbers", x.mean(0, 1), (double) (8L + 2L * MIN) / 6.0);
        Check.dueDouble("mean of a difference", x.mean(2, 2), -16.0 / -3.0);
        Check.dueDouble("mean: node -1", x.mean(-1, 0), 0.0);
        Check.dueDouble("mean: node 3", x.mean(3, 0), 0.0);
        Check.dueDouble("mean: column -1", x.mean(0, -1), 0.0);
        Check.dueDouble("mean: column 3", x.mean(0, 3), 0.0);
        Check.put(x, 0, Check.row(5, 5, 5, 3));
        Check.due("a total of 0", x.total(2), 0);
        Check.due("with rows in it", x.rows(2), 3);
        Check.dueDouble("mean: a total of 0", x.mean(2, 0), 0.0);
        x.filter(0, 0, 0, 99);
        Check.dueDouble("mean of nothing", x.mean(3, 0), 0.0);
        Check.put(x, 1, Check.row(5, 5, 5, 12), Check.row(0, 0, 0, 2));
        x.filter(1, 0, 0, 0);
        x.combine(3, 4, 1);
        Check.dueDouble("mean: 0 by a total below 0", x.mean(5, 1), (double) 0L / (double) -2L);
    }

    private static void counts() {
        DeltaViews x = difference();
        x.change(2, 1, 1, 1, 1);
        Check.due("count: nodes", x.count(0), 3);
        Check.due("count: pending", x.count(1), 1);
        Check.due("count: table 0", x.count(2), 2);
        Check.due("count: table 2 with a pending change", x.count(4), 0);
        x.step();
        x.change(0, 1, 2, 3, -3);
        x.change(0, 1, 2, 3, -1);
        x.step();
        Check.due("count: table 0 after a row went", x.count(2), 1);
        Check.due("count: table 1", x.count(3), 2);
        Check.due("count: table 2", x.count(4), 1);
        Check.due("count: nothing pending", x.count(1), 0);
        Check.due("count(-1)", x.count(-1), DeltaViews.REFUSED);
        Check.due("count(5)", x.count(5), DeltaViews.REFUSED);
        Check.due("count(MAX)", x.count(MAX), DeltaViews.REFUSED);
        Check.due("count(MIN)", x.count(MIN), DeltaViews.REFUSED);
    }
}
