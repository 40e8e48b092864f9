/** Promises 1 to 8: a new object and the calls that make nodes. */
public final class NodesTest {
    private static final int MIN = Integer.MIN_VALUE;
    private static final int MAX = Integer.MAX_VALUE;

    public static void main(String[] args) {
        newObject();
        tableNodes();
        tableNodesFollow();
        tenNodesAreMost();
        filters();
        filterRefusals();
        maps();
        mapRefusals();
        joins();
        everyPick();
        joinOfNegativeWeights();
        joinWhosePairsCancel();
        joinRefusals();
        combinations();
        combineRefusals();
        distincts();
        groups();
        groupsLeaveOutWeightsNotAboveZero();
        groupsWrap();
        groupRefusals();
        newNodesBeyondTheRowLimit();
        newNodesBeyondTheWeightLimit();
        newNodesDoNotSeePending();
        Check.end();
    }

    private static void newObject() {
        DeltaViews x = new DeltaViews();
        for (int what = 0; what <= 4; what++) {
            Check.due("new: count(" + what + ")", x.count(what), 0);
        }
        Check.due("new: rows(0)", x.rows(0), DeltaViews.REFUSED);
        Check.due("new: inTable", x.inTable(0, 0, 0, 0), 0);
        Check.due("new: drop", x.drop(), 0);
        Check.due("new: step", x.step(), 0);
    }

    private static void tableNodes() {
        DeltaViews x = new DeltaViews();
        Check.due("table(-1)", x.table(-1), DeltaViews.REFUSED);
        Check.due("table(3)", x.table(3), DeltaViews.REFUSED);
        Check.due("table(MIN)", x.table(MIN), DeltaViews.REFUSED);
        Check.due("table: refused made no node", x.count(0), 0);
        Check.due("table(2)", x.table(2), 0);
        Check.due("table(0)", x.table(0), 1);
        Check.due("table(2) again", x.table(2), 2);
        Check.due("table: count", x.count(0), 3);
    }

    private static void tableNodesFollow() {
        DeltaViews x = new DeltaViews();
        x.table(1);
        Check.put(x, 1, Check.row(2, 0, 0, 1), Check.row(1, 9, 9, 5));
        Check.put(x, 0, Check.row(7, 7, 7, 1));
        x.table(1);
        Check.dueRows("table made before", x, 0, Check.row(1, 9, 9, 5), Check.row(2, 0, 0, 1));
        Check.dueRows("table made after", x, 1, Check.row(1, 9, 9, 5), Check.row(2, 0, 0, 1));
    }

    private static void tenNodesAreMost() {
        DeltaViews x = new DeltaViews();
        for (int i = 0; i < 10; i++) {
            Check.due("node " + i, x.table(i % 3), i);
        }
        Check.due("an eleventh table", x.table(0), DeltaViews.FULL);
        Check.due("an eleventh filter", x.filter(9, 0, 0, 0), DeltaViews.FULL);
        Check.due("an eleventh map", x.map(9, 0, 0, 0), DeltaViews.FULL);
        Check.due("an eleventh join", x.join(9, 9, 0, 0, 0), DeltaViews.FULL);
        Check.due("an eleventh combination", x.combine(9, 9, 0), DeltaViews.FULL);
        Check.due("an eleventh distinct", x.distinct(9), DeltaViews.FULL);
        Check.due("an eleventh group", x.group(9, 0, 0, 0), DeltaViews.FULL);
        Check.due("numbers are tested before ten nodes: table", x.table(3), DeltaViews.REFUSED);
        Check.due("numbers are tested before ten nodes: distinct", x.distinct(10), DeltaViews.REFUSED);
        Check.due("still ten", x.count(0), 10);
        Check.due("there is no node 10", x.rows(10), DeltaViews.REFUSED);
    }

    private static void filters() {
        DeltaViews x = new DeltaViews();
        x.table(0);
        Check.put(x, 0, Check.row(1, 5, MIN, 1), Check.row(2, 4, 0, 2), Check.row(3, 3, MAX, 3));
        Check.due("filter", x.filter(0, 0, 0, 2), 1);
        x.filter(0, 1, 1, 4);
        x.filter(0, 2, 2, MIN);
        x.filter(0, 1, 3, 4);
        x.filter(0, 2, 1, MIN);
        Check.dueRows("equal", x, 1, Check.row(2, 4, 0, 2));
        Check.dueRows("less", x, 2, Check.row(3, 3, MAX, 3));
        Check.dueRows("greater", x, 3, Check.row(2, 4, 0, 2), Check.row(3, 3, MAX, 3));
        Check.dueRows("not equal", x, 4, Check.row(1, 5, MIN, 1), Check.row(3, 3, MAX, 3));
        Check.dueRows("less than the least", x, 5);
        Check.put(x, 0, Check.row(2, 4, 0, -2), Check.row(2, 0, 0, 1));
        Check.dueRows("equal, after a step", x, 1, Check.row(2, 0, 0, 1));
        Check.dueRows("less, after a step", x, 2, Check.row(2, 0, 0, 1), Check.row(3, 3, MAX, 3));
    }

    private static void filterRefusals() {
        DeltaViews x = new DeltaViews();
        x.table(0);
        Check.due("filter: node -1", x.filter(-1, 0, 0, 0), DeltaViews.REFUSED);
        Check.due("filter: node 1", x.filter(1, 0, 0, 0), DeltaViews.REFUSED);
        Check.due("filter: column -1", x.filter(0, -1, 0, 0), DeltaViews.REFUSED);
        Check.due("filter: column 3", x.filter(0, 3, 0, 0), DeltaViews.REFUSED);
        Check.due("filter: test -1", x.filter(0, 0, -1, 0), DeltaViews.REFUSED);
        Check.due("filter: test 4", x.filter(0, 0, 4, 0), DeltaViews.REFUSED);
        Check.due("filter: refused made no node", x.count(0), 1);
        Check.due("filter: any number", x.filter(0, 2, 3, MIN), 1);
    }

    private static void maps() {
        DeltaViews x = new DeltaViews();
        x.table(0);
        Check.due("map", x.map(0, 2, 0, 1), 1);
        x.map(0, 3, 4, 5);
        x.map(0, 3, 3, 3);
        Check.put(x, 0, Check.row(1, 10, 100, 1), Check.row(2, 9, 50, 2), Check.row(3, 10, 7, 3));
        Check.dueRows("map: columns", x, 1,
                Check.row(7, 3, 10, 3), Check.row(50, 2, 9, 2), Check.row(100, 1, 10, 1));
        Check.dueRows("map: 0, sum, difference", x, 2,
                Check.row(0, 11, -9, 1), Check.row(0, 11, -7, 2), Check.row(0, 13, -7, 3));
        Check.dueRows("map: all alike", x, 3, Check.row(0, 0, 0, 6));
        mapsWrap();
        mapsThatCancel();
    }

    private static void mapsWrap() {
        DeltaViews x = new DeltaViews();
        x.table(0);
        x.map(0, 4, 5, 3);
        Check.put(x, 0, Check.row(MAX, 1, 0, 1), Check.row(MIN, 1, 0, 1));
        Check.dueRows("map: wraps", x, 1, Check.row(MIN, MAX - 1, 0, 1), Check.row(MIN + 1, MAX, 0, 1));
    }

    private static void mapsThatCancel() {
        DeltaViews x = new DeltaViews();
        x.table(0);
        x.table(1);
        x.combine(0, 1, 1);
        x.map(2, 0, 3, 3);
        Check.put(x, 0, Check.row(1, 1, 1, 2), Check.row(2, 1, 1, 3));
        Check.put(x, 1, Check.row(1, 2, 2, 2), Check.row(2, 2, 2, 1));
        Check.dueRows("map: weights that cancel", x, 3, Check.row(2, 0, 0, 2));
    }

    private static void mapRefusals() {
        DeltaViews x = new DeltaViews();
        x.table(0);
        Check.due("map: node -1", x.map(-1, 0, 0, 0), DeltaViews.REFUSED);
        Check.due("map: node 1", x.map(1, 0, 0, 0), DeltaViews.REFUSED);
        for (int code : new int[] {-1, 6, MAX, MIN}) {
            Check.due("map: x " + code, x.map(0, code, 0, 0), DeltaViews.REFUSED);
            Check.due("map: y " + code, x.map(0, 0, code, 0), DeltaViews.REFUSED);
            Check.due("map: z " + code, x.map(0, 0, 0, code), DeltaViews.REFUSED);
        }
        Check.due("map: refused made no node", x.count(0), 1);
        Check.due("map: greatest codes", x.map(0, 5, 5, 5), 1);
    }

    private static void joins() {
        DeltaViews x = new DeltaViews();
        x.table(0);
        x.table(1);
        Check.put(x, 0, Check.row(1, 20, 5, 2), Check.row(2, 21, 5, 3), Check.row(3, 22, 6, 1));
        Check.put(x, 1, Check.row(5, 30, 40, 4), Check.row(5, 31, 41, 1), Check.row(7, 32, 42, 1));
        Check.due("join", x.join(0, 1, 2, 0, 36 * 0 + 6 * 4 + 2), 2);
        Check.dueRows("join: pairs", x, 2, Check.row(1, 30, 5, 8), Check.row(1, 31, 5, 2),
                Check.row(2, 30, 5, 12), Check.row(2, 31, 5, 3));
        x.join(0, 1, 2, 0, 36 * 3 + 6 * 3 + 3);
        Check.dueRows("join: rows alike are summed", x, 3, Check.row(5, 5, 5, 25));
        x.join(0, 0, 2, 2, 36 * 0 + 6 * 3 + 5);
        Check.dueRows("join: with itself", x, 4, Check.row(1, 1, 5, 4), Check.row(1, 2, 5, 6),
                Check.row(2, 1, 5, 6), Check.row(2, 2, 5, 9), Check.row(3, 3, 6, 1));
        Check.put(x, 1, Check.row(5, 30, 40, -4), Check.row(6, 33, 43, 2));
        Check.dueRows("join: after a step", x, 2, Check.row(1, 31, 5, 2), Check.row(2, 31, 5, 3),
                Check.row(3, 33, 6, 2));
    }

    private static void everyPick() {
        for (int pick = 0; pick < 216; pick++) {
            DeltaViews x = new DeltaViews();
            x.table(0);
            x.table(2);
            int leftColumn = pick % 3;
            int rightColumn = (pick / 3) % 3;
            int[] both = {10, 11, 12, 13, 14, 15};
            both[leftColumn] = 99;
            both[3 + rightColumn] = 99;
            Check.put(x, 0, Check.row(both[0], both[1], both[2], 2));
            Check.put(x, 2, Check.row(both[3], both[4], both[5], 3), Check.row(-1, -1, -1, 1));
            x.join(0, 1, leftColumn, rightColumn, pick);
            Check.dueRows("pick " + pick, x, 2,
                    Check.row(both[pick / 36], both[pick / 6 % 6], both[pick % 6], 6));
        }
    }

    private static void joinOfNegativeWeights() {
        DeltaViews x = new DeltaViews();
        x.table(0);
        x.table(1);
        x.combine(0, 1, 1);
        x.join(2, 2, 0, 0, 36 * 1 + 6 * 4 + 0);
        Check.put(x, 0, Check.row(1, 5, 0, 2));
        Check.put(x, 1, Check.row(1, 6, 0, 3));
        Check.dueRows("join: products of negative weights", x, 3, Check.row(5, 5, 1, 4), Check.row(5, 6, 1, -6),
                Check.row(6, 5, 1, -6), Check.row(6, 6, 1, 9));
    }

    /** 288 rows come up on the way, and the last 24 are left: only what is left must keep the limits. */
    private static void joinWhosePairsCancel() {
        DeltaViews x = new DeltaViews();
        for (int table = 0; table < 2; table++) {
            for (int k = 0; k < 12; k++) {
                x.change(table, k, table, 0, k == 11 && table == 0 ? 2 : 1);
            }
            x.step();
        }
        x.table(0);
        x.table(1);
        x.combine(0, 1, 1);
        x.combine(0, 1, 0);
        Check.due("join: pairs cancel", x.join(2, 3, 2, 2, 36 * 0 + 6 * 3 + 4), 4);
        Check.due("join: 24 are left", x.rows(4), 24);
        Check.due("join: the first of them", x.cell(4, 0, 0), 11);
        Check.due("join: the weight of one", x.weight(4, 11, 11, 0), 2);
        Check.due("join: one that cancelled", x.weight(4, 10, 11, 0), 0);
        Check.due("join: 576 rows", x.join(3, 3, 2, 2, 36 * 0 + 6 * 3 + 4), DeltaViews.FULL);
        Check.due("join: 24 of 576 pairs", x.join(3, 3, 2, 2, 36 * 0 + 6 * 1 + 2), 5);
        Check.due("join: 24 rows", x.rows(5), 24);
        Check.due("join: each the sum of 24 pairs", x.weight(5, 3, 1, 0), 25);
        Check.due("join: no node for the full one", x.count(0), 6);
    }

    private static void joinRefusals() {
        DeltaViews x = new DeltaViews();
        x.table(0);
        Check.due("join: left -1", x.join(-1, 0, 0, 0, 0), DeltaViews.REFUSED);
        Check.due("join: left 1", x.join(1, 0, 0, 0, 0), DeltaViews.REFUSED);
        Check.due("join: right -1", x.join(0, -1, 0, 0, 0), DeltaViews.REFUSED);
        Check.due("join: right 1", x.join(0, 1, 0, 0, 0), DeltaViews.REFUSED);
        Check.due("join: left column -1", x.join(0, 0, -1, 0, 0), DeltaViews.REFUSED);
        Check.due("join: left column 3", x.join(0, 0, 3, 0, 0), DeltaViews.REFUSED);
        Check.due("join: right column -1", x.join(0, 0, 0, -1, 0), DeltaViews.REFUSED);
        Check.due("join: right column 3", x.join(0, 0, 0, 3, 0), DeltaViews.REFUSED);
        Check.due("join: pick -1", x.join(0, 0, 0, 0, -1), DeltaViews.REFUSED);
        Check.due("join: pick 216", x.join(0, 0, 0, 0, 216), DeltaViews.REFUSED);
        Check.due("join: refused made no node", x.count(0), 1);
        Check.due("join: greatest numbers", x.join(0, 0, 2, 2, 215), 1);
    }

    private static void combinations() {
        DeltaViews x = new DeltaViews();
        x.table(0);
        x.table(1);
        Check.due("combine: sum", x.combine(0, 1, 0), 2);
        Check.due("combine: difference", x.combine(0, 1, 1), 3);
        Check.due("combine: with itself", x.combine(0, 0, 0), 4);
        Check.due("combine: less itself", x.combine(0, 0, 1), 5);
        Check.put(x, 0, Check.row(1, 1, 1, 2), Check.row(2, 2, 2, 3));
        Check.put(x, 1, Check.row(0, 0, 0, 1), Check.row(1, 1, 1, 2), Check.row(2, 2, 2, 1));
        Check.dueRows("combine: sum", x, 2, Check.row(0, 0, 0, 1), Check.row(1, 1, 1, 4), Check.row(2, 2, 2, 4));
        Check.dueRows("combine: difference", x, 3, Check.row(0, 0, 0, -1), Check.row(2, 2, 2, 2));
        Check.dueRows("combine: with itself", x, 4, Check.row(1, 1, 1, 4), Check.row(2, 2, 2, 6));
        Check.dueRows("combine: less itself", x, 5);
    }

    private static void combineRefusals() {
        DeltaViews x = new DeltaViews();
        x.table(0);
        Check.due("combine: left -1", x.combine(-1, 0, 0), DeltaViews.REFUSED);
        Check.due("combine: left 1", x.combine(1, 0, 0), DeltaViews.REFUSED);
        Check.due("combine: right -1", x.combine(0, -1, 0), DeltaViews.REFUSED);
        Check.due("combine: right 1", x.combine(0, 1, 0), DeltaViews.REFUSED);
        Check.due("combine: kind -1", x.combine(0, 0, -1), DeltaViews.REFUSED);
        Check.due("combine: kind 2", x.combine(0, 0, 2), DeltaViews.REFUSED);
        Check.due("combine: refused made no node", x.count(0), 1);
    }

    private static void distincts() {
        DeltaViews x = new DeltaViews();
        x.table(0);
        x.table(1);
        x.combine(0, 1, 1);
        Check.due("distinct", x.distinct(2), 3);
        Check.put(x, 0, Check.row(1, 1, 1, 5), Check.row(2, 2, 2, 1), Check.row(3, 3, 3, 2));
        Check.put(x, 1, Check.row(2, 2, 2, 1), Check.row(3, 3, 3, 4));
        Check.dueRows("distinct: above 0 alone", x, 3, Check.row(1, 1, 1, 1));
        Check.put(x, 1, Check.row(3, 3, 3, -3));
        Check.dueRows("distinct: one more", x, 3, Check.row(1, 1, 1, 1), Check.row(3, 3, 3, 1));
        Check.due("distinct: node -1", x.distinct(-1), DeltaViews.REFUSED);
        Check.due("distinct: node 4", x.distinct(4), DeltaViews.REFUSED);
    }

    private static void groups() {
        DeltaViews x = new DeltaViews();
        x.table(0);
        Check.put(x, 0, Check.row(1, 7, -5, 2), Check.row(2, 7, 9, 3), Check.row(3, 6, 4, 1),
                Check.row(4, 7, 1, 1));
        for (int kind = 0; kind < 4; kind++) {
            Check.due("group: kind " + kind, x.group(0, 1, 2, kind), kind + 1);
        }
        Check.due("group: key is the column", x.group(0, 1, 1, 1), 5);
        Check.due("group: by column 2", x.group(0, 2, 0, 2), 6);
        Check.dueRows("group: sum of weights", x, 1, Check.row(6, 1, 0, 1), Check.row(7, 6, 0, 1));
        Check.dueRows("group: sum", x, 2, Check.row(6, 4, 0, 1), Check.row(7, 18, 0, 1));
        Check.dueRows("group: least", x, 3, Check.row(6, 4, 0, 1), Check.row(7, -5, 0, 1));
        Check.dueRows("group: greatest", x, 4, Check.row(6, 4, 0, 1), Check.row(7, 9, 0, 1));
        Check.dueRows("group: key is the column", x, 5, Check.row(6, 6, 0, 1), Check.row(7, 42, 0, 1));
        Check.dueRows("group: by column 2", x, 6, Check.row(-5, 1, 0, 1), Check.row(1, 4, 0, 1),
                Check.row(4, 3, 0, 1), Check.row(9, 2, 0, 1));
        Check.put(x, 0, Check.row(1, 7, -5, -2), Check.row(3, 6, 4, -1));
        Check.dueRows("group: least, after a step", x, 3, Check.row(7, 1, 0, 1));
    }

    private static void groupsLeaveOutWeightsNotAboveZero() {
        DeltaViews x = new DeltaViews();
        x.table(0);
        x.table(1);
        x.combine(0, 1, 1);
        Check.put(x, 0, Check.row(1, 5, 0, 2), Check.row(1, 8, 0, 4));
        Check.put(x, 1, Check.row(1, 1, 0, 2), Check.row(1, 9, 0, 1), Check.row(2, 5, 0, 1));
        for (int kind = 0; kind < 4; kind++) {
            x.group(2, 0, 1, kind);
        }
        Check.dueRows("group of negatives: weights", x, 3, Check.row(1, 6, 0, 1));
        Check.dueRows("group of negatives: sum", x, 4, Check.row(1, 42, 0, 1));
        Check.dueRows("group of negatives: least", x, 5, Check.row(1, 5, 0, 1));
        Check.dueRows("group of negatives: greatest", x, 6, Check.row(1, 8, 0, 1));
    }

    private static void groupsWrap() {
        DeltaViews x = new DeltaViews();
        x.table(0);
        Check.put(x, 0, Check.row(0, MAX, 0, 3), Check.row(0, MIN, 0, 1), Check.row(1, MAX, 0, 2));
        x.group(0, 0, 1, 1);
        x.group(0, 0, 1, 2);
        x.group(0, 0, 1, 3);
        int wrapped = (int) (3L * MAX + MIN);
        Check.dueRows("group: the sum wraps", x, 1, Check.row(0, wrapped, 0, 1), Check.row(1, -2, 0, 1));
        Check.dueRows("group: least int", x, 2, Check.row(0, MIN, 0, 1), Check.row(1, MAX, 0, 1));
        Check.dueRows("group: greatest int", x, 3, Check.row(0, MAX, 0, 1), Check.row(1, MAX, 0, 1));
    }

    private static void groupRefusals() {
        DeltaViews x = new DeltaViews();
        x.table(0);
        Check.due("group: node -1", x.group(-1, 0, 0, 0), DeltaViews.REFUSED);
        Check.due("group: node 1", x.group(1, 0, 0, 0), DeltaViews.REFUSED);
        Check.due("group: key -1", x.group(0, -1, 0, 0), DeltaViews.REFUSED);
        Check.due("group: key 3", x.group(0, 3, 0, 0), DeltaViews.REFUSED);
        Check.due("group: column -1", x.group(0, 0, -1, 0), DeltaViews.REFUSED);
        Check.due("group: column 3", x.group(0, 0, 3, 0), DeltaViews.REFUSED);
        Check.due("group: kind -1", x.group(0, 0, 0, -1), DeltaViews.REFUSED);
        Check.due("group: kind 4", x.group(0, 0, 0, 4), DeltaViews.REFUSED);
        Check.due("group: refused made no node", x.count(0), 1);
    }

    private static void newNodesBeyondTheRowLimit() {
        DeltaViews x = new DeltaViews();
        for (int table = 0; table < 3; table++) {
            for (int k = 0; k < (table == 2 ? 1 : 12); k++) {
                x.change(table, table, k, 0, 1);
            }
            x.step();
            x.table(table);
        }
        Check.due("24 rows", x.combine(0, 1, 0), 3);
        Check.due("24 rows: rows", x.rows(3), 24);
        Check.due("25 rows", x.combine(3, 2, 0), DeltaViews.FULL);
        Check.due("25 rows by a difference", x.combine(3, 2, 1), DeltaViews.FULL);
        Check.due("25 rows: no node", x.count(0), 4);
        Check.due("the next number is not lost", x.distinct(3), 4);
    }

    private static void newNodesBeyondTheWeightLimit() {
        DeltaViews x = new DeltaViews();
        x.table(0);
        x.table(1);
        Check.put(x, 0, Check.row(1, 1, 1, 10));
        Check.put(x, 1, Check.row(1, 1, 1, 1));
        x.join(0, 0, 0, 0, 8);
        x.join(2, 2, 0, 0, 8);
        Check.due("weight 1000000", x.join(2, 3, 0, 0, 8), 4);
        Check.dueRows("weight 1000000", x, 4, Check.row(1, 1, 1, 1000000));
        Check.due("weight 1000001", x.combine(4, 1, 0), DeltaViews.FULL);
        Check.due("a weight beyond an int", x.join(4, 4, 0, 0, 8), DeltaViews.FULL);
        Check.due("weight 0", x.combine(4, 4, 1), 5);
        Check.due("weight -1000000", x.combine(5, 4, 1), 6);
        Check.dueRows("weight -1000000", x, 6, Check.row(1, 1, 1, -1000000));
        Check.due("weight -1000001", x.combine(6, 1, 1), DeltaViews.FULL);
        Check.due("weights: nodes", x.count(0), 7);
    }

    private static void newNodesDoNotSeePending() {
        DeltaViews x = new DeltaViews();
        x.change(0, 1, 1, 1, 1);
        x.table(0);
        Check.dueRows("a node made while a change is pending", x, 0);
        Check.due("the change is still pending", x.count(1), 1);
    }
}
