/**
 * The LIMITS: at most 12 rows in a table, 24 in a node, weights from -1000000 to 1000000. Each is tested
 * at the limit and one beyond it, for each kind of node, when it is made and when a step comes.
 */
public final class LimitsTest {
    private static final int FULL = DeltaViews.FULL;
    private static final int MILLION = 1000000;
    /** Of the rows in a join on column 0: all of the left one's columns. */
    private static final int LEFT = 36 * 0 + 6 * 1 + 2;
    /** Columns 0 of both rows, and the left one's column 2. */
    private static final int BOTH = 36 * 0 + 6 * 3 + 2;

    public static void main(String[] args) {
        tablesOfTwelveRows();
        tablesOfTwelveRowsAfterAllChanges();
        rowsOfWeightZeroAreNotIn();
        tableWeightsGoAsFarAsCallsReach();
        newNodesOf24Rows();
        newNodesOf25Rows();
        stepsTo24And25Rows();
        joinsAt24And25Rows();
        newNodesOfAMillion();
        newNodesBeyondAMillion();
        newNodesBeyondAMillionBelowZero();
        mapsThatSumToAMillion();
        mapsThatSumToAMillionBelowZero();
        stepsBeyondAMillion();
        stepsBeyondAMillionBelowZero();
        weightsThatWouldWrapToZero();
        nodesThatLaterOnesWouldMend();
        sumsOnTheWayAreNotBound();
        valuesOfGroupsAreNotBound();
        Check.end();
    }

    private static void tablesOfTwelveRows() {
        Check.sentence("a table has at most 12 rows IN it");
        for (int table = 0; table < 3; table++) {
            DeltaViews x = new DeltaViews();
            changes(x, table, 0, 11);
            Check.due("11 rows", x.step(), 0);
            changes(x, table, 11, 2);
            Check.due("13 rows", x.step(), FULL);
            Check.due("13 rows: still 11", x.count(2 + table), 11);
            Check.due("13 rows: drop", x.drop(), 2);
            changes(x, table, 11, 1);
            Check.due("12 rows", x.step(), 0);
            Check.due("12 rows: count", x.count(2 + table), 12);
            changes(x, table, 12, 1);
            Check.due("one more", x.step(), FULL);
            Check.due("one more: still 12", x.count(2 + table), 12);
            Check.due("one more: it is not in", x.inTable(table, 12, 0, 0), 0);
            x.change(table, 0, 0, 0, -1);
            Check.due("one goes as one comes", x.step(), 0);
            Check.due("one goes: 12", x.count(2 + table), 12);
            Check.due("one goes: it is out", x.inTable(table, 0, 0, 0), 0);
            Check.due("one comes: it is in", x.inTable(table, 12, 0, 0), 1);
        }
    }

    private static void tablesOfTwelveRowsAfterAllChanges() {
        Check.sentence("A table .. would not keep the LIMITS: FULL");
        DeltaViews x = new DeltaViews();
        x.table(1);
        changes(x, 1, 0, 12);
        Check.due("12 rows", x.step(), 12);
        changes(x, 1, 12, 6);
        for (int k = 12; k < 18; k++) {
            x.change(1, k, 0, 0, -1);
        }
        Check.due("18 on the way, 12 after all changes", x.step(), 0);
        Check.due("12 rows are in", x.rows(0), 12);
    }

    private static void rowsOfWeightZeroAreNotIn() {
        Check.sentence("a row is IN it if its WEIGHT is not 0");
        DeltaViews x = new DeltaViews();
        changes(x, 0, 0, 12);
        x.step();
        for (int k = 0; k < 12; k++) {
            x.change(0, k, 0, 0, -1);
        }
        Check.due("all go", x.step(), 0);
        Check.due("none is in", x.count(2), 0);
        changes(x, 0, 100, 12);
        Check.due("twelve others come", x.step(), 0);
        Check.due("twelve are in", x.count(2), 12);
    }

    /** Beyond this the limit of 1000000 can't be reached in 512 calls; that weights are no bytes shows. */
    private static void tableWeightsGoAsFarAsCallsReach() {
        Check.sentence("An object is used for at most 512 calls after it has been made");
        DeltaViews x = new DeltaViews();
        for (int round = 0; round < 39; round++) {
            for (int i = 0; i < 12; i++) {
                x.change(2, 1, 1, 1, 3);
            }
            x.step();
        }
        Check.due("the greatest weight", x.inTable(2, 1, 1, 1), 39 * 36);
        Check.due("call 509", x.table(2), 0);
        Check.due("call 510", x.weight(0, 1, 1, 1), 39 * 36);
        Check.due("call 511", x.change(2, 1, 1, 1, -3), 1);
        Check.due("call 512", x.step(), 1);
    }

    private static void newNodesOf24Rows() {
        Check.sentence("a node at most 24 (rows)");
        DeltaViews x = twoTablesOfTwelve();
        Check.due("TABLE of 12", x.rows(0), 12);
        Check.due("COMBINATION of 24", x.rows(2), 24);
        Check.due("FILTER", x.filter(2, 0, 3, 99), 4);
        Check.due("MAP", x.map(2, 0, 4, 5), 5);
        Check.due("JOIN", x.join(2, 3, 2, 2, BOTH), 6);
        Check.due("DISTINCT", x.distinct(2), 7);
        Check.due("GROUP", x.group(2, 0, 1, 0), 8);
        Check.due("COMBINATION less", x.combine(2, 1, 1), 9);
        for (int node = 4; node < 9; node++) {
            Check.due("rows of node " + node, x.rows(node), 24);
            Check.due("the last row of node " + node, x.cell(node, 23, 0), 23);
            Check.due("no row behind it of node " + node, x.cell(node, 24, 0), DeltaViews.NONE);
        }
        Check.due("24 less 12 of them", x.rows(9), 12);
    }

    private static void newNodesOf25Rows() {
        Check.sentence("the new one would not keep the LIMITS: FULL");
        DeltaViews x = twoTablesOfTwelve();
        Check.due("a sum of 25 rows", x.combine(2, 3, 0), FULL);
        Check.due("a sum of 25 rows, the other way", x.combine(3, 2, 0), FULL);
        Check.due("a difference of 25 rows", x.combine(2, 3, 1), FULL);
        Check.due("a difference of 25 rows, the other way", x.combine(3, 2, 1), FULL);
        Check.due("5 rows", x.filter(0, 0, 1, 5), 4);
        Check.due("a join of 25 rows", x.join(4, 4, 2, 2, BOTH), FULL);
        Check.due("a join of 25 pairs that come out as 5 rows", x.join(4, 4, 2, 2, LEFT), 5);
        Check.due("4 rows", x.filter(0, 0, 1, 4), 6);
        Check.due("6 rows", x.filter(0, 0, 1, 6), 7);
        Check.due("a join of 24 rows", x.join(6, 7, 2, 2, BOTH), 8);
        Check.due("a join of 24 rows: rows", x.rows(8), 24);
        Check.due("a join of 144 rows", x.join(0, 0, 2, 2, BOTH), FULL);
        Check.due("a join of 576 rows", x.join(2, 2, 2, 2, BOTH), FULL);
        Check.due("nodes", x.count(0), 9);
    }

    private static void stepsTo24And25Rows() {
        Check.sentence("A .. node would not keep the LIMITS: FULL");
        for (int kind = 0; kind < 2; kind++) {
            DeltaViews x = new DeltaViews();
            x.table(0);
            x.table(1);
            x.table(2);
            x.combine(0, 1, 0);
            x.combine(3, 2, kind);
            changes(x, 0, 0, 12);
            x.step();
            changes(x, 1, 12, 11);
            Check.due("23 rows", x.step(), 11 * 3);
            changes(x, 2, 30, 2);
            Check.due("25 rows", x.step(), FULL);
            Check.due("25 rows: still 23", x.rows(4), 23);
            Check.due("25 rows: the table's node stays", x.rows(2), 0);
            x.drop();
            changes(x, 2, 30, 1);
            Check.due("24 rows", x.step(), 2);
            Check.due("24 rows: 24", x.rows(4), 24);
            changes(x, 2, 31, 1);
            x.change(0, 5, 0, 0, -1);
            Check.due("one goes as one comes", x.step(), 1 + 1 + 1 + 2);
            Check.due("one goes as one comes: 24", x.rows(4), 24);
        }
    }

    private static void joinsAt24And25Rows() {
        Check.sentence("A .. node would not keep the LIMITS: FULL");
        DeltaViews x = new DeltaViews();
        x.table(0);
        x.table(1);
        x.join(0, 1, 2, 2, BOTH);
        changes(x, 0, 0, 5);
        changes(x, 1, 0, 4);
        Check.due("20 rows", x.step(), 5 + 4 + 20);
        changes(x, 1, 4, 1);
        Check.due("25 rows", x.step(), FULL);
        Check.due("25 rows: still 20", x.rows(2), 20);
        x.drop();
        changes(x, 0, 5, 1);
        Check.due("24 rows", x.step(), 1 + 4);
        Check.due("24 rows: 24", x.rows(2), 24);
    }

    private static void newNodesOfAMillion() {
        Check.sentence("a WEIGHT in either is at most 1000000");
        DeltaViews x = upToAMillion();
        Check.dueRows("JOIN", x, 4, Check.row(1, 0, 0, MILLION), Check.row(2, 0, 0, MILLION));
        Check.due("FILTER", x.filter(4, 0, 0, 1), 5);
        Check.due("MAP", x.map(4, 1, 0, 3), 6);
        Check.due("COMBINATION with nothing", x.combine(4, 1, 0), 7);
        Check.due("DISTINCT", x.distinct(4), 8);
        Check.due("GROUP", x.group(4, 2, 0, 0), 9);
        Check.dueRows("FILTER", x, 5, Check.row(1, 0, 0, MILLION));
        Check.dueRows("MAP", x, 6, Check.row(0, 1, 0, MILLION), Check.row(0, 2, 0, MILLION));
        Check.dueRows("COMBINATION", x, 7, Check.row(1, 0, 0, MILLION), Check.row(2, 0, 0, MILLION));
        Check.dueRows("DISTINCT", x, 8, Check.row(1, 0, 0, 1), Check.row(2, 0, 0, 1));
        Check.dueRows("GROUP", x, 9, Check.row(0, 2 * MILLION, 0, 1));
    }

    private static void newNodesBeyondAMillion() {
        Check.sentence("the new one would not keep the LIMITS: FULL (a WEIGHT is at most 1000000)");
        DeltaViews x = upToAMillion();
        Check.put(x, 1, Check.row(2, 0, 0, 1));
        Check.due("a sum of 1000001", x.combine(4, 1, 0), FULL);
        Check.due("a sum of 1000001, the other way", x.combine(1, 4, 0), FULL);
        Check.due("a sum of 2000000 by a map", x.map(4, 3, 3, 3), FULL);
        Check.due("a product of 10000000", x.join(0, 4, 0, 0, LEFT), FULL);
        Check.due("a sum of products of 2000000", x.join(4, 4, 2, 2, 36 * 2 + 6 * 2 + 2), FULL);
        Check.due("1000000 less 1", x.combine(4, 1, 1), 5);
        Check.dueRows("1000000 less 1", x, 5, Check.row(1, 0, 0, MILLION), Check.row(2, 0, 0, MILLION - 1));
        Check.due("less by a million", x.combine(5, 4, 1), 6);
        Check.dueRows("less by a million", x, 6, Check.row(2, 0, 0, -1));
        Check.due("nodes", x.count(0), 7);

        DeltaViews y = toAMillionAndOne();
        Check.put(y, 1, Check.row(1, 0, 0, 1));
        Check.due("a product of 1000001", y.join(4, 6, 0, 0, LEFT), FULL);
        Check.due("a product of 999901", y.join(4, 5, 0, 0, LEFT), 7);
        Check.due("a product of 999901: weight", y.weight(7, 1, 0, 0), 101 * 9900);
    }

    private static void newNodesBeyondAMillionBelowZero() {
        Check.sentence("the new one would not keep the LIMITS: FULL (a WEIGHT is not below -1000000)");
        DeltaViews x = upToAMillion();
        Check.due("-1000000", x.combine(1, 4, 1), 5);
        Check.dueRows("-1000000", x, 5, Check.row(1, 0, 0, -MILLION), Check.row(2, 0, 0, -MILLION));
        Check.due("FILTER of -1000000", x.filter(5, 0, 2, 1), 6);
        Check.dueRows("FILTER of -1000000", x, 6, Check.row(2, 0, 0, -MILLION));
        Check.put(x, 1, Check.row(2, 0, 0, 1));
        Check.due("-999999 by the step", x.weight(6, 2, 0, 0), -MILLION + 1);
        Check.due("-1000000 by a difference", x.combine(6, 1, 1), 7);
        Check.due("-1000001 by a difference", x.combine(7, 1, 1), FULL);
        Check.due("-1999999 by a map", x.map(5, 3, 3, 3), FULL);
        Check.due("-10000000 by a product", x.join(0, 5, 0, 0, LEFT), FULL);
        Check.due("nodes", x.count(0), 8);

        DeltaViews y = toAMillionAndOne();
        Check.put(y, 1, Check.row(1, 0, 0, 1));
        Check.due("-9900", y.combine(2, 3, 1), 7);
        Check.due("-9901", y.combine(7, 1, 1), 8);
        Check.due("a product of -1000001", y.join(4, 8, 0, 0, LEFT), FULL);
        Check.due("a product of -999901", y.join(4, 7, 0, 0, LEFT), 9);
    }

    private static void mapsThatSumToAMillion() {
        Check.sentence("a WEIGHT in either is at most 1000000 (MAP: Rows that come out alike have the sum)");
        DeltaViews x = toHalfAMillion();
        x.combine(5, 1, 0);
        Check.due("1000000 by a map", x.map(6, 3, 3, 3), 7);
        Check.dueRows("1000000 by a map", x, 7, Check.row(0, 0, 0, MILLION));
        x.change(1, 1, 0, 0, 1);
        Check.due("1000001 by a step", x.step(), FULL);
        Check.due("the sum is as it was", x.weight(7, 0, 0, 0), MILLION);
        Check.due("its input is as it was", x.weight(6, 1, 0, 0), MILLION / 2);
    }

    private static void mapsThatSumToAMillionBelowZero() {
        Check.sentence("a WEIGHT .. not below -1000000 (MAP: Rows that come out alike have the sum)");
        DeltaViews x = toHalfAMillion();
        x.combine(1, 5, 1);
        x.combine(6, 1, 1);
        x.combine(7, 1, 1);
        Check.due("-1000000 by a map", x.map(8, 3, 3, 3), 9);
        Check.dueRows("-1000000 by a map", x, 9, Check.row(0, 0, 0, -MILLION));
        x.change(1, 1, 0, 0, 1);
        Check.due("-1000001 by a step", x.step(), FULL);
        Check.due("the sum is as it was", x.weight(9, 0, 0, 0), -MILLION);
    }

    private static void stepsBeyondAMillion() {
        Check.sentence("A .. node would not keep the LIMITS: FULL (a WEIGHT is at most 1000000)");
        DeltaViews x = upToAMillion();
        x.combine(4, 1, 0);
        x.change(1, 2, 0, 0, 1);
        Check.due("1000001 by a sum", x.step(), FULL);
        Check.due("1000001 by a sum: not done", x.weight(5, 2, 0, 0), MILLION);
        x.change(0, 2, 0, 0, -1);
        Check.due("mended by one more change", x.step(), 6);
        Check.due("mended by one more change: weight", x.weight(5, 2, 0, 0), 9 * 9 * 9 * 9 * 9 * 9 + 1);

        DeltaViews y = toAMillionAndOne();
        Check.due("a product of 990000", y.join(4, 6, 0, 0, LEFT), 7);
        Check.due("a product of 990000: weight", y.weight(7, 1, 0, 0), 100 * 9900);
        y.change(1, 1, 0, 0, 1);
        Check.due("a product of 1000001", y.step(), FULL);
        Check.due("a product of 1000001: not done", y.weight(7, 1, 0, 0), 100 * 9900);
        Check.due("a product of 1000001: pending", y.count(1), 1);
    }

    private static void stepsBeyondAMillionBelowZero() {
        Check.sentence("A .. node would not keep the LIMITS: FULL (a WEIGHT is not below -1000000)");
        DeltaViews x = upToAMillion();
        x.combine(1, 4, 1);
        x.combine(5, 1, 1);
        Check.due("-1000000", x.combine(6, 1, 1), 7);
        x.change(1, 1, 0, 0, 1);
        Check.due("-1000001 by a difference", x.step(), FULL);
        Check.due("-1000001: not done", x.weight(7, 1, 0, 0), -MILLION);

        DeltaViews y = toAMillionAndOne();
        y.combine(2, 3, 1);
        y.combine(7, 1, 1);
        Check.due("a product of -990000", y.join(4, 8, 0, 0, LEFT), 9);
        y.change(1, 1, 0, 0, 1);
        Check.due("a product of -1000001", y.step(), FULL);
        Check.due("a product of -1000001: not done", y.weight(9, 1, 0, 0), -100 * 9900);
    }

    /** 65536 times 65536 is 0 as an int. */
    private static void weightsThatWouldWrapToZero() {
        Check.sentence("a WEIGHT in either is at most 1000000");
        DeltaViews x = new DeltaViews();
        x.table(0);
        x.join(0, 0, 0, 0, LEFT);
        x.join(1, 1, 0, 0, LEFT);
        x.join(2, 2, 0, 0, LEFT);
        Check.put(x, 0, Check.row(1, 0, 0, 4));
        Check.due("65536", x.weight(3, 1, 0, 0), 65536);
        Check.due("65536 times 65536, made", x.join(3, 3, 0, 0, LEFT), FULL);
        Check.put(x, 0, Check.row(1, 0, 0, -3));
        x.join(3, 3, 0, 0, LEFT);
        x.change(0, 1, 0, 0, 3);
        Check.due("65536 times 65536, by a step", x.step(), FULL);
        Check.due("not done", x.weight(4, 1, 0, 0), 1);
    }

    private static void nodesThatLaterOnesWouldMend() {
        Check.sentence("A table or a node would not keep the LIMITS: FULL");
        DeltaViews x = upToAMillion();
        x.combine(4, 1, 0);
        x.combine(5, 5, 1);
        x.filter(5, 0, 0, 99);
        x.change(1, 1, 0, 0, 1);
        Check.due("a weight too great in node 5 alone", x.step(), FULL);

        DeltaViews y = new DeltaViews();
        y.table(0);
        y.join(0, 0, 2, 2, BOTH);
        y.distinct(1);
        y.filter(2, 0, 0, 99);
        changes(y, 0, 0, 5);
        Check.due("too many rows in node 1 alone", y.step(), FULL);
        Check.due("none is in", y.count(2), 0);
    }

    private static void sumsOnTheWayAreNotBound() {
        Check.sentence("Rows that come out alike have the sum (the LIMITS bind the rows IN a node)");
        DeltaViews x = upToAMillion();
        x.filter(4, 0, 0, 1);
        x.filter(4, 0, 0, 2);
        x.combine(5, 6, 1);
        Check.due("1000000 and -1000000 come out alike by a map", x.map(7, 3, 3, 3), 8);
        Check.dueRows("and have the sum 0", x, 8);
        Check.due("10^12 and -10^12 come out alike by a join", x.join(4, 7, 2, 2, 36 * 2 + 6 * 2 + 2), 9);
        Check.dueRows("and have the sum 0, too", x, 9);
    }

    private static void valuesOfGroupsAreNotBound() {
        Check.sentence("GROUP: .. one row (k, v, 0) with WEIGHT 1 (v is no WEIGHT)");
        DeltaViews x = upToAMillion();
        Check.due("the sum of weights", x.group(4, 1, 0, 0), 5);
        Check.due("the sum of weight times column", x.group(4, 1, 0, 1), 6);
        Check.dueRows("the sum of weights", x, 5, Check.row(0, 2 * MILLION, 0, 1));
        Check.dueRows("the sum of weight times column", x, 6, Check.row(0, 3 * MILLION, 0, 1));
    }

    /** So many changes by 1 of the rows (first, 0, 0), (first + 1, 0, 0), .. */
    private static void changes(DeltaViews x, int table, int first, int many) {
        for (int k = first; k < first + many; k++) {
            x.change(table, k, 0, 0, 1);
        }
    }

    /** Nodes 0 and 1 of twelve rows, 2 of both, 24 rows with 0 .. 23 in column 0, 3 of one row more. */
    private static DeltaViews twoTablesOfTwelve() {
        DeltaViews x = new DeltaViews();
        changes(x, 0, 0, 12);
        x.step();
        changes(x, 1, 12, 12);
        x.step();
        changes(x, 2, 24, 1);
        x.step();
        x.table(0);
        x.table(1);
        x.combine(0, 1, 0);
        x.table(2);
        return x;
    }

    /** Two rows: 10 each in node 0, none in 1, 100 in 2, 1000 in 3, 1000000 in 4. */
    private static DeltaViews upToAMillion() {
        DeltaViews x = new DeltaViews();
        x.table(0);
        x.table(1);
        x.join(0, 0, 0, 0, LEFT);
        x.join(0, 2, 0, 0, LEFT);
        x.join(3, 3, 0, 0, LEFT);
        Check.put(x, 0, Check.row(1, 0, 0, 10), Check.row(2, 0, 0, 10));
        return x;
    }

    /** Two rows: 10 each in node 0, none in 1, 50 in 2, 100 in 3, 10000 in 4, 500000 in 5. */
    private static DeltaViews toHalfAMillion() {
        DeltaViews x = new DeltaViews();
        x.table(0);
        x.table(1);
        x.table(2);
        x.join(0, 0, 0, 0, LEFT);
        x.join(3, 3, 0, 0, LEFT);
        x.join(4, 2, 0, 0, LEFT);
        Check.put(x, 0, Check.row(1, 0, 0, 10), Check.row(2, 0, 0, 10));
        for (int half = 0; half < 2; half++) {
            Check.put(x, 2, Check.row(1, 0, 0, 25));
            Check.put(x, 2, Check.row(2, 0, 0, 25));
        }
        return x;
    }

    /** One row: 10 in node 0, none in 1, 100 in 2, 10000 in 3; with w in 1: 100 + w in 4, 9900 in 5, 9900 + w in 6. */
    private static DeltaViews toAMillionAndOne() {
        DeltaViews x = new DeltaViews();
        x.table(0);
        x.table(1);
        x.join(0, 0, 0, 0, LEFT);
        x.join(2, 2, 0, 0, LEFT);
        x.combine(2, 1, 0);
        x.combine(3, 2, 1);
        x.combine(5, 1, 0);
        Check.put(x, 0, Check.row(1, 0, 0, 10));
        return x;
    }
}
