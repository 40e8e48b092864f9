/**
 * The boundary cases that the document's sentences name, but for the LIMITS and the refused calls, which
 * have tests of their own: the terms first, then promise by promise.
 */
public final class EdgesTest {
    private static final int MIN = Integer.MIN_VALUE;
    private static final int MAX = Integer.MAX_VALUE;
    private static final int LEFT = 36 * 0 + 6 * 1 + 2;

    public static void main(String[] args) {
        terms();
        filters();
        maps();
        joins();
        combinationsAndDistincts();
        groups();
        changesAndSteps();
        reads();
        changedRows();
        means();
        counts();
        Check.end();
    }

    private static void terms() {
        newObjectIsEmpty();
        columnsAreInts();
        rowsAreInByTheirWeight();
        rowsAreInOrder();
        tablesAreApart();
        nodesAreNumberedAsMade();
        nodesFollowFromEarlierOnes();
        objectsAreApart();
    }

    private static void newObjectIsEmpty() {
        Check.sentence("No rows, no nodes, nothing pending.");
        DeltaViews x = new DeltaViews();
        for (int what = 0; what <= 4; what++) {
            Check.due("count(" + what + ")", x.count(what), 0);
        }
        for (int table = 0; table < 3; table++) {
            Check.due("inTable", x.inTable(table, 0, 0, 0), 0);
            Check.due("table", x.table(table), table);
            Check.dueRows("its node", x, table);
            Check.due("its changed", x.changed(table), 0);
            Check.dueDouble("its mean", x.mean(table, 0), 0.0);
        }
        Check.due("drop", x.drop(), 0);
        Check.due("step", x.step(), 0);
    }

    private static void columnsAreInts() {
        Check.sentence("ROWS have three columns 0, 1, 2, each an int.");
        int[] ends = {MIN, MAX};
        DeltaViews x = new DeltaViews();
        x.table(0);
        for (int i = 0; i < 8; i++) {
            x.change(0, ends[i / 4], ends[i / 2 % 2], ends[i % 2], 1 + i % 3);
        }
        Check.due("eight rows of the least and greatest ints", x.step(), 8);
        for (int i = 0; i < 8; i++) {
            Check.due("weight", x.weight(0, ends[i / 4], ends[i / 2 % 2], ends[i % 2]), 1 + i % 3);
            Check.due("inTable", x.inTable(0, ends[i / 4], ends[i / 2 % 2], ends[i % 2]), 1 + i % 3);
            Check.due("cell 0", x.cell(0, i, 0), ends[i / 4]);
            Check.due("cell 1", x.cell(0, i, 1), ends[i / 2 % 2]);
            Check.due("cell 2", x.cell(0, i, 2), ends[i % 2]);
        }
        Check.due("a row that differs in column 2 alone", x.weight(0, MIN, MIN, 0), 0);
        Check.due("a row that differs in column 1 alone", x.weight(0, MIN, 0, MIN), 0);
        Check.due("a row that differs in column 0 alone", x.weight(0, 0, MIN, MIN), 0);
    }

    private static void rowsAreInByTheirWeight() {
        Check.sentence("a row is IN it if its WEIGHT is not 0");
        DeltaViews x = new DeltaViews();
        x.table(0);
        x.table(1);
        x.combine(0, 1, 1);
        x.change(0, 1, 1, 1, 1);
        x.change(0, 2, 2, 2, 1);
        x.change(1, 3, 3, 3, 1);
        x.step();
        Check.dueRows("weights 1 and -1", x, 2, Check.row(1, 1, 1, 1), Check.row(2, 2, 2, 1),
                Check.row(3, 3, 3, -1));
        x.change(0, 1, 1, 1, -1);
        x.change(1, 2, 2, 2, 1);
        x.change(0, 3, 3, 3, 1);
        Check.due("down to 0 in the table, and in the node alone", x.step(), 2 + 1 + 3);
        Check.dueRows("table 0", x, 0, Check.row(2, 2, 2, 1), Check.row(3, 3, 3, 1));
        Check.dueRows("nothing is in", x, 2);
        Check.due("nor in table 0", x.count(2), 2);
    }

    private static void rowsAreInOrder() {
        Check.sentence("The order of rows is by column 0, then 1, then 2, smaller first.");
        DeltaViews x = new DeltaViews();
        x.table(2);
        Check.put(x, 2, Check.row(MAX, MIN, MIN, 1), Check.row(0, MAX, MIN, 1), Check.row(0, MIN, MAX, 1),
                Check.row(MIN, MAX, MAX, 1), Check.row(0, 0, 1, 1), Check.row(0, 0, -1, 1),
                Check.row(-1, 0, 0, 1), Check.row(1, 0, 0, 1), Check.row(0, 0, MIN, 1), Check.row(0, 0, MAX, 1));
        Check.dueRows("rows", x, 0, Check.row(MIN, MAX, MAX, 1), Check.row(-1, 0, 0, 1),
                Check.row(0, MIN, MAX, 1), Check.row(0, 0, MIN, 1), Check.row(0, 0, -1, 1), Check.row(0, 0, 1, 1),
                Check.row(0, 0, MAX, 1), Check.row(0, MAX, MIN, 1), Check.row(1, 0, 0, 1),
                Check.row(MAX, MIN, MIN, 1));
    }

    private static void tablesAreApart() {
        Check.sentence("TABLES 0 .. 2 are COLLECTIONS, empty at first");
        DeltaViews x = new DeltaViews();
        for (int table = 0; table < 3; table++) {
            x.change(table, 5, 5, 5, 1 + table);
        }
        x.change(0, 6, 6, 6, 1);
        x.change(2, 7, 7, 7, 1);
        x.step();
        for (int table = 0; table < 3; table++) {
            Check.due("table " + table, x.inTable(table, 5, 5, 5), 1 + table);
            Check.due("a row of table 0 alone", x.inTable(table, 6, 6, 6), table == 0 ? 1 : 0);
            Check.due("a row of table 2 alone", x.inTable(table, 7, 7, 7), table == 2 ? 1 : 0);
            Check.due("count of table " + table, x.count(2 + table), table == 1 ? 1 : 2);
        }
    }

    private static void nodesAreNumberedAsMade() {
        Check.sentence("NODES are numbered 0, 1, .. as they are made, at most ten.");
        DeltaViews x = new DeltaViews();
        for (int node = 0; node < 10; node++) {
            Check.due("a refused one has no number", x.table(3), DeltaViews.REFUSED);
            Check.due("nodes before", x.count(0), node);
            Check.due("a node", x.table(node % 3), node);
        }
        Check.due("the eleventh", x.table(0), DeltaViews.FULL);
        Check.due("ten", x.count(0), 10);
        x.change(0, 1, 1, 1, 1);
        Check.due("the tenth follows as the first does", x.step(), 4);
        Check.due("the tenth", x.rows(9), 1);
    }

    private static void nodesFollowFromEarlierOnes() {
        Check.sentence("Each is a COLLECTION that always follows from the TABLES and from earlier nodes");
        DeltaViews x = new DeltaViews();
        x.table(0);
        x.filter(0, 0, 3, 7);
        x.map(1, 1, 0, 2);
        x.combine(2, 0, 0);
        x.distinct(3);
        x.join(4, 2, 0, 0, LEFT);
        x.combine(5, 2, 1);
        x.map(5, 0, 1, 3);
        x.combine(7, 5, 0);
        x.group(8, 0, 0, 0);
        x.change(0, 1, 2, 3, 2);
        Check.due("one step through ten nodes", x.step(), 1 + 1 + 1 + 2 + 2 + 1 + 0 + 1 + 2 + 1);
        Check.dueRows("the last of the ten", x, 9, Check.row(2, 4, 0, 1));
        x.change(0, 1, 2, 3, -2);
        x.change(0, 7, 2, 3, 2);
        x.step();
        Check.dueRows("the first", x, 0, Check.row(7, 2, 3, 2));
        Check.dueRows("the last is empty again", x, 9);
    }

    private static void objectsAreApart() {
        Check.sentence("A new object: No rows, no nodes, nothing pending.");
        DeltaViews x = new DeltaViews();
        x.table(0);
        x.change(0, 1, 1, 1, 1);
        x.step();
        x.change(0, 2, 2, 2, 1);
        DeltaViews y = new DeltaViews();
        for (int what = 0; what <= 4; what++) {
            Check.due("beside another object: count(" + what + ")", y.count(what), 0);
        }
        Check.due("beside another object: inTable", y.inTable(0, 1, 1, 1), 0);
        y.drop();
        Check.due("the other is as it was", x.count(1), 1);
    }

    private static void filters() {
        int[] numbers = {MIN, MIN + 1, -1, 0, 1, MAX - 1, MAX};
        for (int test = 0; test < 4; test++) {
            Check.sentence("FILTER: .. equal to (0), less than (1), greater than (2), not equal to (3) a number");
            for (int number : numbers) {
                for (int column = 0; column < 3; column++) {
                    filtersAt(column, test, number, numbers);
                }
            }
        }
        Check.sentence("FILTER: a row has its WEIGHT in the input .., else 0");
        DeltaViews x = new DeltaViews();
        x.table(0);
        x.table(1);
        x.combine(0, 1, 1);
        Check.put(x, 1, Check.row(4, 0, 0, 2), Check.row(5, 0, 0, 2));
        x.filter(2, 0, 0, 4);
        x.filter(0, 0, 3, 4);
        Check.dueRows("a weight below 0", x, 3, Check.row(4, 0, 0, -2));
        Check.due("a row that is left out", x.weight(3, 5, 0, 0), 0);
        Check.dueRows("of nothing", x, 4);
    }

    private static void filtersAt(int column, int test, int number, int[] values) {
        DeltaViews x = new DeltaViews();
        x.table(0);
        for (int value : values) {
            x.change(0, column == 0 ? value : 0, column == 1 ? value : 0, column == 2 ? value : 0, 2);
        }
        x.filter(0, column, test, number);
        x.step();
        int due = 0;
        for (int value : values) {
            boolean in = test == 0 && value == number || test == 1 && value < number
                    || test == 2 && value > number || test == 3 && value != number;
            due += in ? 1 : 0;
            Check.due("test " + test + " of " + value + " against " + number,
                    x.weight(1, column == 0 ? value : 0, column == 1 ? value : 0, column == 2 ? value : 0),
                    in ? 2 : 0);
        }
        Check.due("test " + test + " against " + number + ": rows", x.rows(1), due);
    }

    private static void maps() {
        Check.sentence("4 column 0 plus column 1; 5 column 0 less column 1 (both wrap)");
        mapAt(MAX, 1, MIN, MAX - 1);
        mapAt(MAX, MAX, -2, 0);
        mapAt(MIN, -1, MAX, MIN + 1);
        mapAt(MIN, MIN, 0, 0);
        mapAt(MIN, 1, MIN + 1, MAX);
        mapAt(MAX, -1, MAX - 1, MIN);
        mapAt(0, MIN, MIN, MIN);
        mapAt(MIN, MAX, -1, 1);
        mapAt(MAX, MIN, -1, -1);
        mapAt(MAX - 1, 1, MAX, MAX - 2);
        mapCodes();
        mapsThatComeOutAlike();
    }

    private static void mapAt(int a, int b, int sum, int difference) {
        DeltaViews x = new DeltaViews();
        x.table(0);
        x.map(0, 4, 5, 3);
        Check.put(x, 0, Check.row(a, b, 8, 2));
        Check.dueRows(a + " and " + b, x, 1, Check.row(sum, difference, 0, 2));
    }

    private static void mapCodes() {
        Check.sentence("the row of the three codes: 0, 1, 2 that column; 3 the number 0");
        int[] coded = {5, 3, 9, 0, 8, 2};
        for (int code = 0; code < 6; code++) {
            DeltaViews x = new DeltaViews();
            x.table(0);
            x.map(0, code, 2, 2);
            x.map(0, 2, code, 2);
            x.map(0, 2, 2, code);
            Check.put(x, 0, Check.row(5, 3, 9, 1));
            Check.dueRows("x " + code, x, 1, Check.row(coded[code], 9, 9, 1));
            Check.dueRows("y " + code, x, 2, Check.row(9, coded[code], 9, 1));
            Check.dueRows("z " + code, x, 3, Check.row(9, 9, coded[code], 1));
        }
    }

    private static void mapsThatComeOutAlike() {
        Check.sentence("MAP: .. Rows that come out alike have the sum.");
        DeltaViews x = new DeltaViews();
        x.table(0);
        x.table(1);
        x.combine(0, 1, 1);
        x.map(2, 3, 4, 3);
        Check.dueRows("of nothing", x, 3);
        Check.put(x, 0, Check.row(1, 2, 0, 3), Check.row(2, 1, 5, 2), Check.row(MAX, 1, 0, 1));
        Check.put(x, 1, Check.row(3, 0, 0, 4), Check.row(MIN, 0, 0, 1));
        Check.dueRows("3 and 2 less 4; 1 less 1 by a wrap", x, 3, Check.row(0, 3, 0, 1));
        Check.put(x, 1, Check.row(3, 0, 0, 1));
        Check.dueRows("all sums are 0", x, 3);
        Check.put(x, 1, Check.row(3, 0, 0, 1));
        Check.dueRows("a sum below 0", x, 3, Check.row(0, 3, 0, -1));
    }

    private static void joins() {
        joinsOfNothing();
        joinsOfEqualColumns();
        joinsThatComeOutAlike();
        joinsOfOneNode();
    }

    private static void joinsOfNothing() {
        Check.sentence("JOIN: each row l IN the left input and row r IN the right one");
        DeltaViews x = new DeltaViews();
        x.table(0);
        x.table(1);
        x.join(0, 1, 0, 0, LEFT);
        Check.dueRows("both are empty", x, 2);
        Check.put(x, 0, Check.row(1, 1, 1, 1));
        Check.dueRows("the right one is empty", x, 2);
        Check.put(x, 0, Check.row(1, 1, 1, -1));
        Check.put(x, 1, Check.row(1, 1, 1, 1));
        Check.dueRows("the left one is empty", x, 2);
        Check.put(x, 0, Check.row(2, 1, 1, 1));
        Check.dueRows("no columns are equal", x, 2);
        Check.put(x, 1, Check.row(2, 8, 8, 3));
        Check.dueRows("one pair", x, 2, Check.row(2, 1, 1, 3));
    }

    private static void joinsOfEqualColumns() {
        Check.sentence("JOIN: .. whose columns asked for are equal");
        int[] values = {MIN, -1, 0, MAX};
        for (int left = 0; left < 3; left++) {
            for (int right = 0; right < 3; right++) {
                DeltaViews x = new DeltaViews();
                x.table(0);
                x.table(1);
                for (int value : values) {
                    x.change(0, left == 0 ? value : 70, left == 1 ? value : 71, left == 2 ? value : 72, 1);
                    x.change(1, right == 0 ? value : 80, right == 1 ? value : 81, right == 2 ? value : 82, 2);
                }
                x.join(0, 1, left, right, 36 * left + 6 * (3 + right) + left);
                Check.due("a step", x.step(), 4 + 4 + 4);
                Check.dueRows("columns " + left + " and " + right, x, 2, Check.row(MIN, MIN, MIN, 2),
                        Check.row(-1, -1, -1, 2), Check.row(0, 0, 0, 2), Check.row(MAX, MAX, MAX, 2));
            }
        }
    }

    private static void joinsThatComeOutAlike() {
        Check.sentence("give the product of their WEIGHTS to the row picked .. Rows that come out alike have the sum.");
        DeltaViews x = new DeltaViews();
        x.table(0);
        x.table(1);
        x.combine(0, 1, 1);
        x.join(2, 2, 2, 2, 36 * 2 + 6 * 5 + 2);
        Check.put(x, 0, Check.row(1, 0, 9, 3), Check.row(2, 0, 9, 2));
        Check.dueRows("5 times 5", x, 3, Check.row(9, 9, 9, 25));
        Check.put(x, 1, Check.row(3, 0, 9, 7));
        Check.dueRows("-2 times -2", x, 3, Check.row(9, 9, 9, 4));
        Check.put(x, 1, Check.row(2, 0, 9, 1));
        Check.dueRows("-3 times -3", x, 3, Check.row(9, 9, 9, 9));
        Check.put(x, 0, Check.row(4, 0, 9, 3));
        Check.dueRows("0 times 0: not in", x, 3);
        Check.due("0 times 0: its weight", x.weight(3, 9, 9, 9), 0);
        x.join(0, 2, 0, 0, LEFT);
        Check.dueRows("weights of both signs", x, 4, Check.row(1, 0, 9, 9), Check.row(2, 0, 9, 2),
                Check.row(4, 0, 9, 9));
        x.join(1, 2, 0, 0, LEFT);
        Check.dueRows("a product below 0", x, 5, Check.row(2, 0, 9, 1), Check.row(3, 0, 9, -49));
    }

    private static void joinsOfOneNode() {
        Check.sentence("Makes a JOIN of two nodes (they may be the same)");
        DeltaViews x = new DeltaViews();
        x.table(0);
        Check.due("with itself on two columns", x.join(0, 0, 0, 1, 36 * 0 + 6 * 1 + 3), 1);
        Check.put(x, 0, Check.row(1, 2, 0, 2), Check.row(2, 1, 0, 3), Check.row(3, 3, 0, 1));
        Check.dueRows("with itself on two columns", x, 1, Check.row(1, 2, 2, 6), Check.row(2, 1, 1, 6),
                Check.row(3, 3, 3, 1));
        Check.sentence("pick 0 .. 215 is 36 x + 6 y + z");
        Check.due("pick 0", x.join(0, 0, 0, 0, 0), 2);
        Check.due("pick 215", x.join(0, 0, 0, 0, 215), 3);
        Check.dueRows("pick 0: column 0 of l alone", x, 2, Check.row(1, 1, 1, 4), Check.row(2, 2, 2, 9),
                Check.row(3, 3, 3, 1));
        Check.dueRows("pick 215: column 2 of r alone", x, 3, Check.row(0, 0, 0, 14));
    }

    private static void combinationsAndDistincts() {
        Check.sentence("COMBINATION: the sum of the WEIGHTS in both inputs (0), or that in the left less that in the right one (1).");
        DeltaViews x = new DeltaViews();
        x.table(0);
        x.table(1);
        x.combine(0, 1, 0);
        x.combine(0, 1, 1);
        x.combine(3, 3, 0);
        x.combine(2, 2, 1);
        x.distinct(3);
        Check.dueRows("a sum of nothing", x, 2);
        Check.dueRows("a difference of nothing", x, 3);
        Check.put(x, 1, Check.row(1, 1, 1, 2));
        Check.dueRows("a sum with nothing on the left", x, 2, Check.row(1, 1, 1, 2));
        Check.dueRows("nothing less something", x, 3, Check.row(1, 1, 1, -2));
        Check.dueRows("a sum with itself", x, 4, Check.row(1, 1, 1, -4));
        Check.dueRows("less itself", x, 5);
        Check.sentence("DISTINCT: 1 for a row with a WEIGHT above 0 in the input, else 0.");
        Check.dueRows("of a weight of -2", x, 6);
        for (int weight = -1; weight <= 2; weight++) {
            Check.put(x, 0, Check.row(1, 1, 1, 1));
            Check.due("the weight", x.weight(3, 1, 1, 1), weight);
            Check.due("distinct of it", x.weight(6, 1, 1, 1), weight > 0 ? 1 : 0);
            Check.due("distinct of it: rows", x.rows(6), weight > 0 ? 1 : 0);
        }
    }

    private static void groups() {
        groupsOfNothing();
        groupsOfOneRow();
        groupsOfWeightsAtZero();
        groupsThatWrap();
        groupsByEachColumn();
        groupsOfEqualValues();
    }

    private static void groupsOfNothing() {
        Check.sentence("GROUP: for each value k of the key column among the rows with a WEIGHT above 0 in the input");
        for (int kind = 0; kind < 4; kind++) {
            DeltaViews x = new DeltaViews();
            x.table(0);
            x.table(1);
            x.combine(0, 1, 1);
            x.group(2, 0, 1, kind);
            Check.dueRows("of nothing", x, 3);
            Check.put(x, 1, Check.row(1, 5, 0, 2), Check.row(2, 5, 0, 1));
            Check.dueRows("of weights below 0", x, 3);
            Check.put(x, 0, Check.row(2, 5, 0, 1));
            Check.dueRows("of a weight of 0", x, 3);
        }
    }

    private static void groupsOfOneRow() {
        Check.sentence("one row (k, v, 0) with WEIGHT 1");
        int[] values = {3, 3 * -8, -8, -8};
        for (int kind = 0; kind < 4; kind++) {
            DeltaViews x = new DeltaViews();
            x.table(0);
            x.group(0, 2, 1, kind);
            Check.put(x, 0, Check.row(7, -8, 9, 3));
            Check.dueRows("kind " + kind, x, 1, Check.row(9, values[kind], 0, 1));
            Check.put(x, 0, Check.row(7, -8, 9, -3));
            Check.dueRows("kind " + kind + ": gone", x, 1);
        }
    }

    private static void groupsOfWeightsAtZero() {
        Check.sentence("With only those rows with k: v is the sum of their WEIGHTS (0), the sum of WEIGHT times "
                + "column (1), the least (2) or the greatest (3) column.");
        int[] values = {3, 2 * 4 + 6, 4, 6};
        for (int kind = 0; kind < 4; kind++) {
            DeltaViews x = new DeltaViews();
            x.table(0);
            x.table(1);
            x.combine(0, 1, 1);
            x.group(2, 0, 1, kind);
            Check.put(x, 0, Check.row(1, 4, 0, 2), Check.row(1, 6, 0, 1), Check.row(1, 2, 0, 1),
                    Check.row(1, 8, 0, 1), Check.row(2, 1, 0, 1), Check.row(0, 9, 0, 1));
            Check.put(x, 1, Check.row(1, 2, 0, 1), Check.row(1, 8, 0, 2), Check.row(1, 1, 0, 1),
                    Check.row(2, 1, 0, 1), Check.row(0, 9, 0, 2));
            Check.dueRows("kind " + kind, x, 3, Check.row(1, values[kind], 0, 1));
        }
    }

    private static void groupsThatWrap() {
        Check.sentence("(0) and (1) wrap to an int.");
        groupAt(new long[][] {{0, MAX, 0, 1}, {0, 1, 0, 1}}, MIN);
        groupAt(new long[][] {{0, MIN, 0, 1}, {0, -1, 0, 1}}, MAX);
        groupAt(new long[][] {{0, MAX, 0, 2}}, -2);
        groupAt(new long[][] {{0, MIN, 0, 2}}, 0);
        groupAt(new long[][] {{0, MIN, 0, 3}}, MIN);
        groupAt(new long[][] {{0, MAX, 0, 3}, {0, MIN, 0, 3}}, -3);
        groupAt(new long[][] {{0, MAX - 1, 0, 1}, {0, 1, 0, 1}}, MAX);
        DeltaViews x = ofAMillion(MAX);
        x.group(4, 1, 0, 1);
        x.group(4, 1, 0, 0);
        Check.dueRows("1000000 times the greatest int", x, 5, Check.row(0, -1000000, 0, 1));
        Check.dueRows("a sum of weights", x, 6, Check.row(0, 1000000, 0, 1));
        DeltaViews y = ofAMillion(5000);
        y.group(4, 1, 0, 1);
        Check.dueRows("1000000 times 5000", y, 5, Check.row(0, (int) 5000000000L, 0, 1));
    }

    private static void groupAt(long[][] rows, int sum) {
        DeltaViews x = new DeltaViews();
        x.table(0);
        x.group(0, 0, 1, 1);
        Check.put(x, 0, rows);
        Check.dueRows("a sum", x, 1, Check.row(0, sum, 0, 1));
    }

    private static void groupsByEachColumn() {
        Check.sentence("Makes a GROUP over a node: key and column 0 .. 2");
        for (int key = 0; key < 3; key++) {
            for (int column = 0; column < 3; column++) {
                DeltaViews x = new DeltaViews();
                x.table(0);
                x.group(0, key, column, 2);
                x.group(0, key, column, 3);
                Check.put(x, 0, Check.row(MIN, MIN, MIN, 1), Check.row(MAX, MAX, MAX, 1));
                Check.dueRows("least", x, 1, Check.row(MIN, MIN, 0, 1), Check.row(MAX, MAX, 0, 1));
                Check.dueRows("greatest", x, 2, Check.row(MIN, MIN, 0, 1), Check.row(MAX, MAX, 0, 1));
            }
        }
        DeltaViews x = new DeltaViews();
        x.table(0);
        x.group(0, 1, 0, 2);
        x.group(0, 1, 0, 3);
        Check.put(x, 0, Check.row(MIN, 5, 0, 1), Check.row(MAX, 5, 0, 1), Check.row(0, 5, 0, 1));
        Check.dueRows("the least int", x, 1, Check.row(5, MIN, 0, 1));
        Check.dueRows("the greatest int", x, 2, Check.row(5, MAX, 0, 1));
        Check.put(x, 0, Check.row(0, 5, 0, -1));
        Check.dueRows("the least int of two", x, 1, Check.row(5, MIN, 0, 1));
        Check.dueRows("the greatest int of two", x, 2, Check.row(5, MAX, 0, 1));
    }

    private static void groupsOfEqualValues() {
        Check.sentence("GROUP: for each value k .. one row (k, v, 0)");
        DeltaViews x = new DeltaViews();
        x.table(0);
        x.group(0, 2, 1, 0);
        Check.put(x, 0, Check.row(1, 0, 4, 1), Check.row(2, 0, 3, 1), Check.row(3, 0, 4, 1), Check.row(4, 0, 3, 1));
        Check.dueRows("keys that are not side by side", x, 1, Check.row(3, 2, 0, 1), Check.row(4, 2, 0, 1));
        Check.put(x, 0, Check.row(1, 0, 4, -1));
        Check.dueRows("one of two goes", x, 1, Check.row(3, 2, 0, 1), Check.row(4, 1, 0, 1));
        Check.due("which is two rows", x.changed(1), 2);
    }

    private static void changesAndSteps() {
        changesOfEachNumber();
        pendingIsEmptiedAndFilledAgain();
        stepsToExactlyZero();
        stepsThatChangeNothing();
        pendingStaysInWholeAfterARefusal();
        stepsRefuseBeforeTheyAreFull();
        dropsOfNoneAndOfTwelve();
    }

    private static void changesOfEachNumber() {
        Check.sentence("by -3 .. 3 and not 0, else REFUSED");
        for (int by = -5; by <= 5; by++) {
            DeltaViews x = new DeltaViews();
            Check.put(x, 1, Check.row(1, 1, 1, 5));
            boolean good = by >= -3 && by <= 3 && by != 0;
            Check.due("by " + by, x.change(1, 1, 1, 1, by), good ? 1 : DeltaViews.REFUSED);
            Check.due("by " + by + ": pending", x.count(1), good ? 1 : 0);
            Check.due("by " + by + ": step", x.step(), 0);
            Check.due("by " + by + ": the weight", x.inTable(1, 1, 1, 1), good ? 5 + by : 5);
        }
    }

    private static void pendingIsEmptiedAndFilledAgain() {
        Check.sentence("PENDING is a list of at most 12 changes");
        DeltaViews x = new DeltaViews();
        for (int round = 0; round < 3; round++) {
            for (int i = 1; i <= 12; i++) {
                Check.due("Answers how many are", x.change(i % 3, round, i, 0, 1), i);
            }
            Check.due("the thirteenth", x.change(0, 0, 0, 0, 1), DeltaViews.FULL);
            Check.due("the thirteenth, to take one back", x.change(0, round, 3, 0, -1), DeltaViews.FULL);
            Check.due("how many", x.count(1), 12);
            Check.due("emptied", round == 1 ? x.drop() : x.step(), round == 1 ? 12 : 0);
            Check.due("none", x.count(1), 0);
        }
        Check.due("four of each of two rounds", x.count(2), 8);
    }

    private static void stepsToExactlyZero() {
        Check.sentence("A WEIGHT in a table would be below 0 after all of them: REFUSED.");
        for (int table = 0; table < 3; table++) {
            DeltaViews x = new DeltaViews();
            Check.put(x, table, Check.row(1, 1, 1, 3));
            x.change(table, 1, 1, 1, -3);
            x.change(table, 1, 1, 1, -1);
            Check.due("-1", x.step(), DeltaViews.REFUSED);
            Check.due("-1: not done", x.inTable(table, 1, 1, 1), 3);
            x.change(table, 1, 1, 1, 1);
            Check.due("0", x.step(), 0);
            Check.due("0: done", x.inTable(table, 1, 1, 1), 0);
            Check.due("0: not in", x.count(2 + table), 0);
            x.change(table, 2, 2, 2, -1);
            Check.due("-1 of a row that was never in", x.step(), DeltaViews.REFUSED);
            x.change((table + 1) % 3, 2, 2, 2, 1);
            Check.due("1 in another table does not mend it", x.step(), DeltaViews.REFUSED);
            x.change(table, 2, 2, 2, 1);
            Check.due("mended", x.step(), 0);
        }
    }

    private static void stepsThatChangeNothing() {
        Check.sentence("Does all PENDING changes at once. .. Answers the sum of changed over all nodes.");
        DeltaViews x = new DeltaViews();
        Check.due("no nodes, nothing pending", x.step(), 0);
        x.change(0, 1, 1, 1, 3);
        Check.due("no nodes", x.step(), 0);
        Check.due("no nodes: done", x.inTable(0, 1, 1, 1), 3);
        x.table(0);
        Check.due("nothing pending", x.step(), 0);
        x.change(0, 1, 1, 1, 2);
        x.change(0, 1, 1, 1, -2);
        x.change(0, 2, 2, 2, -1);
        x.change(0, 2, 2, 2, 1);
        Check.due("changes that cancel", x.step(), 0);
        Check.due("nothing is pending", x.count(1), 0);
        Check.dueRows("nothing is changed", x, 0, Check.row(1, 1, 1, 3));
        for (int i = 1; i < 10; i++) {
            x.table(0);
        }
        x.change(0, 1, 1, 1, -3);
        x.change(0, 9, 9, 9, 1);
        Check.due("two rows in each of ten nodes", x.step(), 20);
    }

    private static void pendingStaysInWholeAfterARefusal() {
        Check.sentence("(After REFUSED and FULL all is still PENDING.)");
        DeltaViews x = new DeltaViews();
        x.table(0);
        for (int i = 0; i < 11; i++) {
            x.change(0, i, 0, 0, 1 + i % 3);
        }
        x.change(0, 50, 0, 0, -1);
        Check.due("twelve, one of them below 0", x.step(), DeltaViews.REFUSED);
        Check.due("twelve are pending", x.count(1), 12);
        Check.due("and no more go in", x.change(0, 50, 0, 0, 1), DeltaViews.FULL);
        Check.due("twelve are dropped", x.drop(), 12);

        DeltaViews y = new DeltaViews();
        y.table(0);
        y.join(0, 0, 2, 2, 36 * 0 + 6 * 3 + 3);
        for (int i = 0; i < 5; i++) {
            y.change(0, i, 0, 0, 1);
        }
        Check.due("25 rows in a node", y.step(), DeltaViews.FULL);
        Check.due("again", y.step(), DeltaViews.FULL);
        Check.due("a sixth change", y.change(0, 4, 0, 0, -1), 6);
        Check.due("which mends it: all were pending", y.step(), 4 + 16);
        Check.due("nothing is pending", y.count(1), 0);
    }

    private static void stepsRefuseBeforeTheyAreFull() {
        Check.sentence("A WEIGHT .. below 0 ..: REFUSED. A table or a node would not keep the LIMITS: FULL (in that order).");
        for (int table = 0; table < 3; table++) {
            for (int below = 0; below < 3; below++) {
                DeltaViews x = new DeltaViews();
                for (int k = 0; k < 12; k++) {
                    x.change(table, k, 0, 0, 1);
                }
                x.step();
                x.change(table, 99, 0, 0, 1);
                x.change(below, 50, 0, 0, -1);
                Check.due("13 rows in " + table + ", below 0 in " + below, x.step(), DeltaViews.REFUSED);
            }
        }
        DeltaViews y = new DeltaViews();
        y.table(0);
        y.join(0, 0, 2, 2, 36 * 0 + 6 * 3 + 3);
        for (int i = 0; i < 5; i++) {
            y.change(0, i, 0, 0, 1);
        }
        y.change(2, 0, 0, 0, -1);
        Check.due("a node of 25 rows, below 0 in a table", y.step(), DeltaViews.REFUSED);
    }

    private static void dropsOfNoneAndOfTwelve() {
        Check.sentence("Nothing is PENDING any more. Answers how many changes were.");
        DeltaViews x = new DeltaViews();
        x.table(0);
        Check.put(x, 0, Check.row(1, 1, 1, 1));
        Check.due("none", x.drop(), 0);
        for (int i = 0; i < 12; i++) {
            x.change(0, i, 0, 0, 1);
        }
        Check.due("twelve", x.drop(), 12);
        Check.due("none again", x.drop(), 0);
        Check.due("none are counted", x.count(1), 0);
        Check.due("changed is as it was", x.changed(0), 1);
        Check.due("a step does none of them", x.step(), 0);
        Check.dueRows("none was done", x, 0, Check.row(1, 1, 1, 1));
    }

    private static void reads() {
        weightsOfRowsThatAreNotIn();
        pendingDoesNotCount();
        rowsFromNoneTo24();
        cellsAtTheEnds();
        totalsAtTheEnds();
    }

    private static void weightsOfRowsThatAreNotIn() {
        Check.sentence("The WEIGHT of a row in a node.");
        DeltaViews x = new DeltaViews();
        x.table(0);
        Check.due("in an empty node", x.weight(0, 0, 0, 0), 0);
        Check.put(x, 0, Check.row(0, 0, 0, 1), Check.row(2, 2, 2, 3));
        Check.due("of the first", x.weight(0, 0, 0, 0), 1);
        Check.due("of the last", x.weight(0, 2, 2, 2), 3);
        Check.due("before the first", x.weight(0, MIN, MIN, MIN), 0);
        Check.due("between", x.weight(0, 1, 1, 1), 0);
        Check.due("behind the last", x.weight(0, MAX, MAX, MAX), 0);
        Check.put(x, 0, Check.row(0, 0, 0, -1));
        Check.due("of one that went", x.weight(0, 0, 0, 0), 0);
    }

    private static void pendingDoesNotCount() {
        Check.sentence("The WEIGHT of a row in a table 0 .. 2; PENDING changes don't count.");
        for (int table = 0; table < 3; table++) {
            DeltaViews x = new DeltaViews();
            x.table(table);
            Check.put(x, table, Check.row(1, 1, 1, 2));
            x.change(table, 1, 1, 1, -2);
            x.change(table, 2, 2, 2, 1);
            Check.due("one that will go", x.inTable(table, 1, 1, 1), 2);
            Check.due("one that will come", x.inTable(table, 2, 2, 2), 0);
            Check.due("count", x.count(2 + table), 1);
            Check.dueRows("nor in a node", x, 0, Check.row(1, 1, 1, 2));
            Check.due("a node made now", x.table(table), 1);
            Check.dueRows("nor in a node made now", x, 1, Check.row(1, 1, 1, 2));
            x.step();
            Check.due("one that went", x.inTable(table, 1, 1, 1), 0);
            Check.due("one that came", x.inTable(table, 2, 2, 2), 1);
            Check.due("in another table", x.inTable((table + 1) % 3, 2, 2, 2), 0);
        }
    }

    private static void rowsFromNoneTo24() {
        Check.sentence("How many rows are IN a node.");
        DeltaViews x = new DeltaViews();
        x.table(0);
        x.table(1);
        x.combine(0, 1, 1);
        Check.due("none", x.rows(2), 0);
        for (int k = 0; k < 24; k++) {
            x.change(k % 2, k, 0, 0, 2);
            x.step();
            Check.due("rows", x.rows(2), k + 1);
        }
        for (int k = 0; k < 24; k++) {
            x.change(k % 2, k, 0, 0, -2);
            x.step();
            Check.due("rows again", x.rows(2), 23 - k);
        }
    }

    private static void cellsAtTheEnds() {
        Check.sentence("Column 0 .. 2 of row i IN a node, from 0, in the order of rows; there is none: NONE.");
        DeltaViews x = new DeltaViews();
        x.table(0);
        for (int i : new int[] {MIN, -1, 0, 1, MAX}) {
            Check.due("row " + i + " of none", x.cell(0, i, 0), DeltaViews.NONE);
        }
        Check.put(x, 0, Check.row(3, -4, MAX, 1), Check.row(MIN, 7, 8, 2));
        long[][] due = {{MIN, 7, 8}, {3, -4, MAX}};
        for (int column = 0; column < 3; column++) {
            Check.due("row -1", x.cell(0, -1, column), DeltaViews.NONE);
            Check.due("row 0", x.cell(0, 0, column), due[0][column]);
            Check.due("row 1", x.cell(0, 1, column), due[1][column]);
            Check.due("row 2", x.cell(0, 2, column), DeltaViews.NONE);
        }
        Check.put(x, 0, Check.row(3, -4, MAX, -1));
        Check.due("a row that was there", x.cell(0, 1, 0), DeltaViews.NONE);
        Check.put(x, 0, Check.row(MIN, 7, 8, -2));
        Check.due("the last that was there", x.cell(0, 0, 0), DeltaViews.NONE);
    }

    private static void totalsAtTheEnds() {
        Check.sentence("The sum of all WEIGHTS in a node.");
        DeltaViews x = new DeltaViews();
        x.table(0);
        x.table(1);
        x.combine(0, 1, 1);
        Check.due("of none", x.total(2), 0);
        Check.put(x, 0, Check.row(1, 1, 1, 2));
        Check.put(x, 1, Check.row(2, 2, 2, 2));
        Check.due("of 2 and -2", x.total(2), 0);
        Check.put(x, 1, Check.row(2, 2, 2, 1));
        Check.due("of 2 and -3", x.total(2), -1);
        DeltaViews y = twelveOfAMillion();
        Check.due("of twelve times 1000000", y.total(4), 12000000);
        y.combine(1, 4, 1);
        Check.due("of twelve times -1000000", y.total(5), -12000000);
    }

    private static void changedRows() {
        changedBeforeAnyStep();
        changedCountsRows();
        changedAfterRefusedSteps();
        changedOfNodesMadeAfter();
        changedOfAllRows();
    }

    private static void changedBeforeAnyStep() {
        Check.sentence("0 if the node was made after it, or there was none");
        DeltaViews x = new DeltaViews();
        x.table(0);
        Check.due("no step", x.changed(0), 0);
        x.change(0, 1, 1, 1, -1);
        Check.due("a step that was refused", x.step(), DeltaViews.REFUSED);
        Check.due("no step but a refused one", x.changed(0), 0);
        x.drop();
        x.join(0, 0, 2, 2, 36 * 0 + 6 * 3 + 3);
        for (int i = 0; i < 5; i++) {
            x.change(0, i, 0, 0, 1);
        }
        Check.due("a step that was full", x.step(), DeltaViews.FULL);
        Check.due("no step but a full one", x.changed(0), 0);
        Check.due("no step but a full one, the full node", x.changed(1), 0);
    }

    private static void changedCountsRows() {
        Check.sentence("How many rows have another WEIGHT in the node than before the last step");
        DeltaViews x = new DeltaViews();
        x.table(0);
        Check.put(x, 0, Check.row(1, 0, 0, 1), Check.row(2, 0, 0, 2), Check.row(3, 0, 0, 3));
        Check.due("three came", x.changed(0), 3);
        x.change(0, 1, 0, 0, -1);
        x.change(0, 2, 0, 0, 1);
        x.change(0, 2, 0, 0, 1);
        x.change(0, 4, 0, 0, 1);
        Check.due("one went, one weight, one came", x.step(), 3);
        x.change(0, 2, 0, 0, 3);
        x.change(0, 2, 0, 0, -3);
        x.change(0, 3, 0, 0, -1);
        Check.due("one weight alone", x.step(), 1);
        Check.due("one weight alone: changed", x.changed(0), 1);
        Check.due("a step without changes", x.step(), 0);
        Check.due("is the last step", x.changed(0), 0);
        DeltaViews y = new DeltaViews();
        y.table(0);
        y.table(1);
        y.combine(0, 1, 1);
        Check.put(y, 0, Check.row(1, 0, 0, 1));
        y.change(1, 1, 0, 0, 2);
        Check.due("a weight from 1 to -1", y.step(), 1 + 1);
        Check.due("a weight from 1 to -1: changed", y.changed(2), 1);
    }

    private static void changedAfterRefusedSteps() {
        Check.sentence("the last step that was not refused or FULL");
        DeltaViews x = new DeltaViews();
        x.table(0);
        Check.put(x, 0, Check.row(1, 0, 0, 1), Check.row(2, 0, 0, 2));
        x.change(0, 3, 0, 0, -1);
        Check.due("refused", x.step(), DeltaViews.REFUSED);
        Check.due("refused: changed", x.changed(0), 2);
        x.drop();
        for (int i = 0; i < 11; i++) {
            x.change(0, 10 + i, 0, 0, 1);
        }
        Check.due("a full table", x.step(), DeltaViews.FULL);
        Check.due("a full table: changed", x.changed(0), 2);
        x.drop();
        Check.due("dropped: changed", x.changed(0), 2);
        x.join(0, 0, 2, 2, 36 * 0 + 6 * 3 + 3);
        x.change(0, 3, 0, 0, 1);
        Check.due("pending: changed", x.changed(0), 2);
        Check.due("9 rows for 4", x.step(), 1 + 5);
        for (int i = 0; i < 2; i++) {
            x.change(0, 10 + i, 0, 0, 1);
        }
        Check.due("a full node", x.step(), DeltaViews.FULL);
        Check.due("a full node: changed", x.changed(1), 5);
        Check.due("a full node: changed of its input", x.changed(0), 1);
    }

    private static void changedOfNodesMadeAfter() {
        Check.sentence("0 if the node was made after it");
        DeltaViews x = new DeltaViews();
        Check.put(x, 0, Check.row(1, 0, 0, 1), Check.row(2, 0, 0, 2));
        x.table(0);
        x.distinct(0);
        Check.due("made after the step", x.changed(0), 0);
        Check.due("made after it, over another", x.changed(1), 0);
        x.change(0, 9, 0, 0, -1);
        x.step();
        Check.due("after a refused step", x.changed(0), 0);
        x.drop();
        x.change(0, 1, 0, 0, 1);
        Check.due("the next step", x.step(), 1);
        Check.due("the next step: changed", x.changed(0), 1);
        Check.due("the next step: distinct did not", x.changed(1), 0);
    }

    /** One change turns the column that 24 rows take from the other table: 24 go and 24 come. */
    private static void changedOfAllRows() {
        Check.sentence("How many rows have another WEIGHT in the node than before the last step");
        DeltaViews x = new DeltaViews();
        for (int table = 0; table < 2; table++) {
            for (int k = 0; k < 12; k++) {
                x.change(table, 12 * table + k, 0, 0, 1);
            }
            x.step();
        }
        Check.put(x, 2, Check.row(5, 0, 0, 1));
        x.table(0);
        x.table(1);
        x.combine(0, 1, 0);
        x.table(2);
        Check.due("24 rows", x.join(2, 3, 1, 1, 36 * 0 + 6 * 3 + 3), 4);
        x.change(2, 5, 0, 0, -1);
        x.change(2, 6, 0, 0, 1);
        Check.due("48 rows and 2", x.step(), 48 + 2);
        Check.due("48 rows", x.changed(4), 48);
        Check.due("the union did not", x.changed(2), 0);
    }

    private static void means() {
        Check.sentence("(double) s / (double) t; 0.0 if t is 0");
        DeltaViews x = new DeltaViews();
        x.table(0);
        x.table(1);
        x.combine(0, 1, 1);
        Check.dueDouble("of none", x.mean(2, 0), 0.0);
        Check.put(x, 0, Check.row(1, -7, MAX, 2));
        Check.dueDouble("of one row", x.mean(2, 1), -7.0);
        Check.put(x, 1, Check.row(4, 5, MIN, 2));
        Check.due("t is 0", x.total(2), 0);
        Check.dueDouble("t is 0, s is not", x.mean(2, 0), 0.0);
        Check.put(x, 1, Check.row(4, 5, MIN, 1));
        Check.dueDouble("t is below 0, column 0", x.mean(2, 0), 10.0);
        Check.dueDouble("t is below 0, column 1", x.mean(2, 1), 29.0);
        Check.dueDouble("t is below 0, column 2", x.mean(2, 2), (double) (2L * MAX - 3L * MIN) / -1.0);
        Check.put(x, 0, Check.row(0, 0, 0, 3));
        Check.dueDouble("not a whole number", x.mean(0, 0), 2.0 / 5.0);
        Check.dueDouble("nor this", x.mean(0, 1), -14.0 / 5.0);
        meansOfGreatSums();
    }

    private static void meansOfGreatSums() {
        Check.sentence("with s as the sum of WEIGHT times column over all its rows and t as total (both as longs)");
        DeltaViews x = ofAMillion(MAX);
        Check.dueDouble("1000000 times the greatest int", x.mean(4, 0), (double) (1000000L * MAX) / 1000000.0);
        DeltaViews y = ofAMillion(MIN);
        Check.dueDouble("1000000 times the least int", y.mean(4, 0), (double) (1000000L * MIN) / 1000000.0);
        DeltaViews z = twelveOfAMillion();
        long sum = 0;
        for (int k = 0; k < 12; k++) {
            sum += 1000000L * (MAX - k);
        }
        Check.dueDouble("twelve such rows", z.mean(4, 0), (double) sum / 12000000.0);
        meanThatDoublesWouldLose();
    }

    /** Five great sums, a 1, and the five below 0: sums as doubles would lose the 1, from either end. */
    private static void meanThatDoublesWouldLose() {
        DeltaViews x = withThreeJoins();
        for (int k = 0; k < 5; k++) {
            Check.put(x, 0, Check.row(k, MAX, 0, 10));
            Check.put(x, 0, Check.row(6 + k, -MAX, 0, 10));
        }
        Check.put(x, 0, Check.row(5, 1, 0, 1));
        Check.due("ten weights of 1000000 and a 1", x.total(4), 10000001);
        Check.dueDouble("the 1 is not lost", x.mean(4, 1), 1.0 / 10000001.0);
    }

    private static void counts() {
        Check.sentence("0: the nodes; 1: the PENDING changes; 2: the rows IN table 0, 3 in table 1, 4 in table 2.");
        DeltaViews x = new DeltaViews();
        for (int table = 0; table < 3; table++) {
            for (int k = 0; k <= table; k++) {
                x.change(table, k, 0, 0, 1);
            }
        }
        Check.due("pending", x.count(1), 6);
        x.step();
        x.table(0);
        x.table(0);
        x.change(0, 9, 9, 9, 1);
        int[] due = {2, 1, 1, 2, 3};
        for (int what = 0; what <= 4; what++) {
            Check.due("count(" + what + ")", x.count(what), due[what]);
        }
        Check.sentence("Another what: REFUSED.");
        for (int what : new int[] {MIN, -1, 5, 6, MAX}) {
            Check.due("count(" + what + ")", x.count(what), DeltaViews.REFUSED);
        }
    }

    /** Node 4 has the row (value, 0, 0) with weight 1000000; node 1 has none. */
    private static DeltaViews ofAMillion(int value) {
        DeltaViews x = withThreeJoins();
        Check.put(x, 0, Check.row(value, 0, 0, 10));
        return x;
    }

    /** Node 4 has the rows (MAX, 0, 0), (MAX - 1, 0, 0), .. with weight 1000000 each. */
    private static DeltaViews twelveOfAMillion() {
        DeltaViews x = withThreeJoins();
        for (int k = 0; k < 12; k++) {
            Check.put(x, 0, Check.row(MAX - k, 0, 0, 10));
        }
        return x;
    }

    /** With weight w of a row in node 0: w to the power 2 in node 2, 3 in node 3, 6 in node 4. */
    private static DeltaViews withThreeJoins() {
        DeltaViews x = new DeltaViews();
        x.table(0);
        x.table(1);
        x.join(0, 0, 0, 0, LEFT);
        x.join(0, 2, 0, 0, LEFT);
        x.join(3, 3, 0, 0, LEFT);
        return x;
    }
}
