/** Promises 9 to 11: change, step and drop. */
public final class StepsTest {
    public static void main(String[] args) {
        changes();
        changeRefusals();
        twelveChangesAreMost();
        stepDoesAllAtOnce();
        stepRefusedBelowZero();
        stepOrderDoesNotMatter();
        stepRefusesBeforeItIsFull();
        tableOfMoreThanTwelveRows();
        tableKeepsTwelveRowsInOneStep();
        nodeOfMoreThanItsLimits();
        nodeStaysAtItsLimit();
        fullStepKeepsEveryPart();
        drops();
        Check.end();
    }

    private static void changes() {
        DeltaViews x = new DeltaViews();
        Check.due("change", x.change(0, 1, 2, 3, 3), 1);
        Check.due("change, the same row", x.change(0, 1, 2, 3, 3), 2);
        Check.due("change, below 0 for now", x.change(2, Integer.MIN_VALUE, 0, Integer.MAX_VALUE, -3), 3);
        Check.due("changes are pending", x.count(1), 3);
        Check.due("changes are not done", x.inTable(0, 1, 2, 3), 0);
    }

    private static void changeRefusals() {
        DeltaViews x = new DeltaViews();
        Check.due("change: table -1", x.change(-1, 0, 0, 0, 1), DeltaViews.REFUSED);
        Check.due("change: table 3", x.change(3, 0, 0, 0, 1), DeltaViews.REFUSED);
        Check.due("change: by 0", x.change(0, 0, 0, 0, 0), DeltaViews.REFUSED);
        Check.due("change: by 4", x.change(0, 0, 0, 0, 4), DeltaViews.REFUSED);
        Check.due("change: by -4", x.change(0, 0, 0, 0, -4), DeltaViews.REFUSED);
        Check.due("change: by MIN", x.change(0, 0, 0, 0, Integer.MIN_VALUE), DeltaViews.REFUSED);
        Check.due("change: refused left nothing pending", x.count(1), 0);
        Check.due("change: by -3", x.change(0, 0, 0, 0, -3), 1);
        Check.due("change: by 3", x.change(0, 0, 0, 0, 3), 2);
    }

    private static void twelveChangesAreMost() {
        DeltaViews x = new DeltaViews();
        for (int i = 1; i <= 12; i++) {
            Check.due("change " + i, x.change(0, 0, 0, 0, 1), i);
        }
        Check.due("change 13", x.change(0, 0, 0, 0, 1), DeltaViews.FULL);
        Check.due("change 13 with a wrong number", x.change(0, 0, 0, 0, 0), DeltaViews.REFUSED);
        Check.due("still 12", x.count(1), 12);
        Check.due("step", x.step(), 0);
        Check.due("12 were done", x.inTable(0, 0, 0, 0), 12);
        Check.due("after the step, change", x.change(0, 0, 0, 0, 1), 1);
    }

    private static void stepDoesAllAtOnce() {
        DeltaViews x = new DeltaViews();
        x.table(0);
        x.table(1);
        x.combine(0, 1, 0);
        x.change(0, 1, 1, 1, 2);
        x.change(1, 2, 2, 2, 3);
        x.change(0, 3, 3, 3, 1);
        Check.due("step: the sum of changed", x.step(), 2 + 1 + 3);
        Check.due("step: nothing is pending", x.count(1), 0);
        Check.dueRows("step: table 0", x, 0, Check.row(1, 1, 1, 2), Check.row(3, 3, 3, 1));
        Check.dueRows("step: table 1", x, 1, Check.row(2, 2, 2, 3));
        Check.dueRows("step: both", x, 2, Check.row(1, 1, 1, 2), Check.row(2, 2, 2, 3), Check.row(3, 3, 3, 1));
        Check.due("step: with nothing pending", x.step(), 0);
        Check.due("step: with nothing pending, rows", x.rows(2), 3);
        x.change(0, 1, 1, 1, -2);
        Check.due("step: a row goes", x.step(), 2);
        Check.due("step: count", x.count(2), 1);
        Check.dueRows("step: both again", x, 2, Check.row(2, 2, 2, 3), Check.row(3, 3, 3, 1));
    }

    private static void stepRefusedBelowZero() {
        DeltaViews x = new DeltaViews();
        x.table(0);
        x.change(0, 1, 1, 1, 2);
        Check.due("before", x.step(), 1);
        x.change(0, 2, 2, 2, 1);
        x.change(0, 1, 1, 1, -3);
        Check.due("a weight of -1", x.step(), DeltaViews.REFUSED);
        Check.due("refused again", x.step(), DeltaViews.REFUSED);
        Check.due("all is still pending", x.count(1), 2);
        Check.due("changed is that of the step before", x.changed(0), 1);
        Check.dueRows("nothing was done", x, 0, Check.row(1, 1, 1, 2));
        Check.due("the table too", x.inTable(0, 2, 2, 2), 0);
        Check.due("one more change", x.change(0, 1, 1, 1, 1), 3);
        Check.due("a weight of 0", x.step(), 2);
        Check.dueRows("all was done", x, 0, Check.row(2, 2, 2, 1));
        x.change(2, 0, 0, 0, -1);
        Check.due("below 0 in a table without a node", x.step(), DeltaViews.REFUSED);
    }

    private static void stepOrderDoesNotMatter() {
        DeltaViews x = new DeltaViews();
        x.table(1);
        x.change(1, 1, 1, 1, -3);
        x.change(1, 1, 1, 1, 3);
        x.change(1, 2, 2, 2, -1);
        x.change(1, 2, 2, 2, 2);
        Check.due("below 0 only on the way", x.step(), 1);
        Check.dueRows("below 0 only on the way", x, 0, Check.row(2, 2, 2, 1));
        Check.due("a sum of 0 is no row", x.count(3), 1);
    }

    private static void stepRefusesBeforeItIsFull() {
        DeltaViews x = new DeltaViews();
        for (int k = 0; k < 12; k++) {
            x.change(0, k, 0, 0, 1);
        }
        x.step();
        x.change(0, 12, 0, 0, 1);
        Check.due("13 rows", x.step(), DeltaViews.FULL);
        x.change(2, 0, 0, 0, -1);
        Check.due("13 rows, and below 0 in a later table", x.step(), DeltaViews.REFUSED);
        Check.due("both are pending", x.count(1), 2);
    }

    private static void tableOfMoreThanTwelveRows() {
        DeltaViews x = new DeltaViews();
        for (int k = 0; k < 12; k++) {
            x.change(1, k, 0, 0, 1);
        }
        Check.due("12 rows", x.step(), 0);
        Check.due("12 rows: count", x.count(3), 12);
        x.change(1, 3, 0, 0, 1);
        x.change(1, 12, 0, 0, 1);
        Check.due("13 rows", x.step(), DeltaViews.FULL);
        Check.due("13 rows: count", x.count(3), 12);
        Check.due("13 rows: pending", x.count(1), 2);
        Check.due("13 rows: not done in part", x.inTable(1, 3, 0, 0), 1);
    }

    private static void tableKeepsTwelveRowsInOneStep() {
        DeltaViews x = new DeltaViews();
        for (int k = 0; k < 12; k++) {
            x.change(0, k, 0, 0, 1);
        }
        x.step();
        for (int k = 0; k < 6; k++) {
            x.change(0, 100 + k, 0, 0, 1);
        }
        for (int k = 0; k < 6; k++) {
            x.change(0, k, 0, 0, -1);
        }
        Check.due("six come before six go", x.step(), 0);
        Check.due("twelve rows", x.count(2), 12);
        Check.due("one that came", x.inTable(0, 105, 0, 0), 1);
        Check.due("one that went", x.inTable(0, 5, 0, 0), 0);
    }

    private static void nodeOfMoreThanItsLimits() {
        DeltaViews x = new DeltaViews();
        x.table(0);
        x.join(0, 0, 2, 2, 36 * 0 + 6 * 3 + 3);
        for (int k = 0; k < 5; k++) {
            x.change(0, k, 0, k == 4 ? 1 : 0, 1);
        }
        Check.due("17 rows", x.step(), 5 + 17);
        x.change(0, 9, 0, 0, 1);
        Check.due("26 rows", x.step(), DeltaViews.FULL);
        Check.due("26 rows: the table is as it was", x.inTable(0, 9, 0, 0), 0);
        Check.due("26 rows: changed is as it was", x.changed(1), 17);
        Check.due("26 rows: one is pending", x.drop(), 1);

        DeltaViews y = new DeltaViews();
        y.table(0);
        y.table(1);
        y.combine(0, 1, 0);
        Check.put(y, 0, Check.row(1, 1, 1, 10));
        y.join(0, 0, 0, 0, 8);
        y.join(3, 3, 0, 0, 8);
        y.join(3, 4, 0, 0, 8);
        y.combine(5, 1, 0);
        y.combine(2, 2, 1);
        y.combine(7, 6, 1);
        y.change(1, 1, 1, 1, 1);
        Check.due("weight 1000001", y.step(), DeltaViews.FULL);
        Check.due("weight 1000000", y.weight(6, 1, 1, 1), 1000000);
        Check.due("weight -1000000", y.weight(8, 1, 1, 1), -1000000);
    }

    /** Rows come and go in one step while the node stands at its limit. */
    private static void nodeStaysAtItsLimit() {
        DeltaViews x = new DeltaViews();
        x.table(0);
        x.table(1);
        x.combine(0, 1, 0);
        for (int k = 0; k < 12; k++) {
            x.change(0, k, 0, 0, 1);
        }
        x.step();
        for (int k = 0; k < 12; k++) {
            x.change(1, k, 1, 0, 1);
        }
        Check.due("24 rows", x.step(), 24);
        for (int k = 0; k < 6; k++) {
            x.change(1, k, 2, 0, 1);
            x.change(1, k, 1, 0, -1);
        }
        Check.due("24 others", x.step(), 24);
        Check.due("24 others: rows", x.rows(2), 24);
    }

    private static void fullStepKeepsEveryPart() {
        DeltaViews x = new DeltaViews();
        x.table(0);
        x.distinct(0);
        x.group(0, 0, 1, 0);
        Check.put(x, 0, Check.row(1, 1, 1, 1), Check.row(1, 2, 1, 1));
        x.join(0, 0, 2, 2, 36 * 0 + 6 * 1 + 4);
        for (int k = 3; k < 7; k++) {
            x.change(0, 1, k, 1, 1);
        }
        Check.due("a late node is full", x.step(), DeltaViews.FULL);
        Check.dueRows("full: table", x, 0, Check.row(1, 1, 1, 1), Check.row(1, 2, 1, 1));
        Check.dueRows("full: distinct", x, 1, Check.row(1, 1, 1, 1), Check.row(1, 2, 1, 1));
        Check.dueRows("full: group", x, 2, Check.row(1, 2, 0, 1));
        Check.due("full: changed", x.changed(2), 1);
        Check.due("full: changed of a node made later", x.changed(3), 0);
        Check.due("full: pending", x.count(1), 4);
        Check.due("full: drop", x.drop(), 4);
        x.change(0, 1, 3, 1, 1);
        Check.due("a smaller step", x.step(), 1 + 1 + 2 + 5);
    }

    private static void drops() {
        DeltaViews x = new DeltaViews();
        Check.due("drop: nothing", x.drop(), 0);
        x.change(0, 1, 1, 1, 1);
        x.change(1, 1, 1, 1, -1);
        Check.due("drop: two", x.drop(), 2);
        Check.due("drop: nothing is pending", x.count(1), 0);
        Check.due("drop: nothing is left to drop", x.drop(), 0);
        Check.due("drop: step", x.step(), 0);
        Check.due("drop: no change was done", x.inTable(0, 1, 1, 1), 0);
        Check.due("drop: the next change is the first", x.change(0, 2, 2, 2, 1), 1);
        x.step();
        Check.due("drop: tables stay", x.drop(), 0);
        Check.due("drop: tables stay as they are", x.inTable(0, 2, 2, 2), 1);
    }
}
