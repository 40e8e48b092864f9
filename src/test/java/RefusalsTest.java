import java.util.ArrayList;
import java.util.List;

/**
 * The paragraph "Every call tests its numbers first ...": what a call with a number out of range, a
 * refused one and a full one answer, and that none of them changes anything.
 */
public final class RefusalsTest {
    private static final int MIN = Integer.MIN_VALUE;
    private static final int MAX = Integer.MAX_VALUE;

    /** All answers of the class are exact as doubles. */
    private interface Call {
        double on(DeltaViews x);
    }

    private interface State {
        DeltaViews made();
    }

    private record Case(String name, double due, Call call) {
    }

    public static void main(String[] args) {
        wrongNumbersOfANewObject();
        wrongNumbersOfAnOrdinaryObject();
        wrongNumbersAreTestedBeforeFull();
        nodesAreInRangeOnceMade();
        nodesThatWereFullAreNotInRange();
        tenNodesAreFull();
        twelvePendingAreFull();
        nodesBeyondTheLimitsAreFull();
        refusedStepsChangeNothing();
        fullStepsChangeNothing();
        manyRefusalsChangeNothing();
        Check.end();
    }

    private static void wrongNumbersOfANewObject() {
        Check.sentence("Numbers out of range .. answer REFUSED (NONE where the answer is a long), 0.0 where it "
                + "is a double, and change nothing");
        for (Case one : wrongNumbers(0)) {
            changesNothing("new: ", DeltaViews::new, one);
        }
        for (Case one : fullWithTenNodes()) {
            if (!one.name.startsWith("table")) {
                changesNothing("new: node 0 in ", DeltaViews::new, new Case(one.name, -1, one.call));
            }
        }
    }

    private static void wrongNumbersOfAnOrdinaryObject() {
        Check.sentence("Numbers out of range .. answer REFUSED (NONE where the answer is a long), 0.0 where it "
                + "is a double, and change nothing");
        for (Case one : wrongNumbers(3)) {
            changesNothing("ordinary: ", RefusalsTest::ordinary, one);
        }
    }

    private static void wrongNumbersAreTestedBeforeFull() {
        Check.sentence("Every call tests its numbers first .., then what its own comment says, in that order");
        for (Case one : wrongNumbers(10)) {
            changesNothing("ten nodes, twelve pending: ", RefusalsTest::tenAndTwelve, one);
        }
    }

    private static void nodesAreInRangeOnceMade() {
        Check.sentence("a node is a number in range if it was made");
        DeltaViews x = new DeltaViews();
        for (int node = 0; node < 10; node++) {
            Check.due("rows before it was made", x.rows(node), DeltaViews.REFUSED);
            Check.due("distinct of it before", x.distinct(node), DeltaViews.REFUSED);
            Check.due("combine with it before", x.combine(0, node, 0), DeltaViews.REFUSED);
            Check.due("total before", x.total(node), DeltaViews.NONE);
            Check.due("making node " + node, node == 0 ? x.table(0) : x.distinct(node - 1), node);
            Check.due("rows once it was made", x.rows(node), 0);
            Check.due("total once it was made", x.total(node), 0);
            Check.due("changed once it was made", x.changed(node), 0);
            Check.due("weight once it was made", x.weight(node, 0, 0, 0), 0);
        }
    }

    private static void nodesThatWereFullAreNotInRange() {
        Check.sentence("a node is a number in range if it was made");
        DeltaViews x = withNodesBeyondTheLimits();
        int nodes = x.count(0);
        Check.due("the node that is full", x.combine(2, 3, 0), DeltaViews.FULL);
        Check.due("its rows", x.rows(nodes), DeltaViews.REFUSED);
        Check.due("its total", x.total(nodes), DeltaViews.NONE);
        Check.due("a cell of it", x.cell(nodes, 0, 0), DeltaViews.NONE);
        Check.due("a weight of it", x.weight(nodes, 0, 0, 0), DeltaViews.NONE);
        Check.due("its changed", x.changed(nodes), DeltaViews.REFUSED);
        Check.dueDouble("its mean", x.mean(nodes, 0), 0.0);
        Check.due("a distinct over it", x.distinct(nodes), DeltaViews.REFUSED);
        Check.due("its number is the next one's", x.distinct(0), nodes);
        Check.due("the next one's rows", x.rows(nodes), 12);
    }

    private static void tenNodesAreFull() {
        Check.sentence("ten nodes are there ..: FULL; FULL changes nothing");
        for (Case one : fullWithTenNodes()) {
            changesNothing("ten nodes: ", RefusalsTest::tenAndTwelve, one);
        }
    }

    private static void twelvePendingAreFull() {
        Check.sentence("12 changes are PENDING: FULL; FULL changes nothing");
        for (int table = 0; table < 3; table++) {
            int to = table;
            for (int by : new int[] {-3, -1, 1, 3}) {
                changesNothing("twelve pending: ", RefusalsTest::tenAndTwelve,
                        new Case("change of table " + to + " by " + by, -2, x -> x.change(to, 3, 0, 0, by)));
            }
        }
    }

    private static void nodesBeyondTheLimitsAreFull() {
        Check.sentence("the new one would not keep the LIMITS: FULL; FULL changes nothing");
        changesNothing("25 rows: ", RefusalsTest::withNodesBeyondTheLimits,
                new Case("combine(2, 3, 0)", -2, x -> x.combine(2, 3, 0)));
        changesNothing("25 rows: ", RefusalsTest::withNodesBeyondTheLimits,
                new Case("combine(2, 3, 1)", -2, x -> x.combine(2, 3, 1)));
        changesNothing("144 rows: ", RefusalsTest::withNodesBeyondTheLimits,
                new Case("join(0, 0, 2, 2, 62)", -2, x -> x.join(0, 0, 2, 2, 62)));
    }

    private static void refusedStepsChangeNothing() {
        Check.sentence("A WEIGHT in a table would be below 0 after all of them: REFUSED .. all is still PENDING");
        for (int table = 0; table < 3; table++) {
            int below = table;
            State state = () -> {
                DeltaViews x = ordinary();
                x.change(below, 50, 0, 0, -1);
                x.change(below, 51, 0, 0, 1);
                return x;
            };
            changesNothing("below 0 in table " + table + ": ", state, new Case("step", -1, DeltaViews::step));
        }
    }

    private static void fullStepsChangeNothing() {
        Check.sentence("A table or a node would not keep the LIMITS: FULL .. all is still PENDING");
        for (int table = 0; table < 3; table++) {
            int over = table;
            State state = () -> {
                DeltaViews x = ordinary();
                x.drop();
                for (int k = 0; k < 12; k++) {
                    x.change(over, 100 + k, 0, 0, 1);
                }
                x.step();
                x.change(over, 200, 0, 0, 1);
                x.change(over, 201, 0, 0, 1);
                return x;
            };
            changesNothing("a thirteenth row in table " + table + ": ", state, new Case("step", -2, DeltaViews::step));
        }
        State late = () -> {
            DeltaViews x = ordinary();
            x.join(0, 0, 2, 2, 3);
            for (int k = 0; k < 5; k++) {
                x.change(0, 100 + k, 0, 77, 1);
            }
            return x;
        };
        changesNothing("25 rows in the last node: ", late, new Case("step", -2, DeltaViews::step));
    }

    /** A refused call again and again must not use anything up. */
    private static void manyRefusalsChangeNothing() {
        Check.sentence("and change nothing; FULL changes nothing");
        changesNothing("100 times: ", RefusalsTest::tenAndTwelve, new Case("full and refused", -2, x -> {
            for (int i = 0; i < 50; i++) {
                x.table(3);
                x.change(0, i, i, i, 1);
            }
            return x.table(0);
        }));
    }

    /** Every call of the face with each of its numbers out of range in turn, the others in range. */
    private static List<Case> wrongNumbers(int nodes) {
        List<Case> all = new ArrayList<>();
        for (int node : new int[] {MIN, -1, nodes, nodes + 1, 10, MAX}) {
            addWrongNodes(all, node);
        }
        for (int column : new int[] {MIN, -1, 3, MAX}) {
            addWrongColumns(all, column);
        }
        for (int table : new int[] {MIN, -1, 3, MAX}) {
            String to = " table " + table;
            all.add(new Case("table" + to, -1, x -> x.table(table)));
            all.add(new Case("change" + to, -1, x -> x.change(table, 1, 0, 0, 1)));
            all.add(new Case("inTable" + to, DeltaViews.NONE, x -> x.inTable(table, 1, 0, 0)));
        }
        for (int by : new int[] {MIN, -4, 0, 4, MAX}) {
            all.add(new Case("change by " + by, -1, x -> x.change(0, 1, 0, 0, by)));
        }
        for (int what : new int[] {MIN, -1, 5, MAX}) {
            all.add(new Case("count " + what, -1, x -> x.count(what)));
        }
        for (int i : new int[] {MIN, -1, 24, MAX}) {
            all.add(new Case("cell, row " + i, DeltaViews.NONE, x -> x.cell(0, i, 0)));
        }
        addWrongCodes(all);
        return all;
    }

    private static void addWrongNodes(List<Case> all, int node) {
        String of = " of node " + node;
        all.add(new Case("filter" + of, -1, x -> x.filter(node, 0, 3, 0)));
        all.add(new Case("map" + of, -1, x -> x.map(node, 0, 1, 2)));
        all.add(new Case("join, left" + of, -1, x -> x.join(node, 0, 0, 0, 8)));
        all.add(new Case("join, right" + of, -1, x -> x.join(0, node, 0, 0, 8)));
        all.add(new Case("join, both" + of, -1, x -> x.join(node, node, 0, 0, 8)));
        all.add(new Case("combine, left" + of, -1, x -> x.combine(node, 0, 0)));
        all.add(new Case("combine, right" + of, -1, x -> x.combine(0, node, 0)));
        all.add(new Case("distinct" + of, -1, x -> x.distinct(node)));
        all.add(new Case("group" + of, -1, x -> x.group(node, 0, 0, 0)));
        all.add(new Case("weight" + of, DeltaViews.NONE, x -> x.weight(node, 1, 0, 0)));
        all.add(new Case("rows" + of, -1, x -> x.rows(node)));
        all.add(new Case("cell" + of, DeltaViews.NONE, x -> x.cell(node, 0, 0)));
        all.add(new Case("total" + of, DeltaViews.NONE, x -> x.total(node)));
        all.add(new Case("changed" + of, -1, x -> x.changed(node)));
        all.add(new Case("mean" + of, 0.0, x -> x.mean(node, 0)));
    }

    private static void addWrongColumns(List<Case> all, int column) {
        String of = " column " + column;
        all.add(new Case("filter" + of, -1, x -> x.filter(0, column, 3, 0)));
        all.add(new Case("join, left" + of, -1, x -> x.join(0, 0, column, 0, 8)));
        all.add(new Case("join, right" + of, -1, x -> x.join(0, 0, 0, column, 8)));
        all.add(new Case("group, key" + of, -1, x -> x.group(0, column, 0, 0)));
        all.add(new Case("group, value" + of, -1, x -> x.group(0, 0, column, 0)));
        all.add(new Case("cell" + of, DeltaViews.NONE, x -> x.cell(0, 0, column)));
        all.add(new Case("cell of row 1" + of, DeltaViews.NONE, x -> x.cell(0, 1, column)));
        all.add(new Case("mean" + of, 0.0, x -> x.mean(0, column)));
    }

    private static void addWrongCodes(List<Case> all) {
        for (int test : new int[] {MIN, -1, 4, MAX}) {
            all.add(new Case("filter test " + test, -1, x -> x.filter(0, 0, test, 0)));
            all.add(new Case("group kind " + test, -1, x -> x.group(0, 0, 0, test)));
        }
        for (int kind : new int[] {MIN, -1, 2, MAX}) {
            all.add(new Case("combine kind " + kind, -1, x -> x.combine(0, 0, kind)));
        }
        for (int code : new int[] {MIN, -1, 6, MAX}) {
            all.add(new Case("map x " + code, -1, x -> x.map(0, code, 0, 0)));
            all.add(new Case("map y " + code, -1, x -> x.map(0, 0, code, 0)));
            all.add(new Case("map z " + code, -1, x -> x.map(0, 0, 0, code)));
        }
        for (int pick : new int[] {MIN, -1, 216, MAX}) {
            all.add(new Case("join pick " + pick, -1, x -> x.join(0, 0, 0, 0, pick)));
        }
    }

    private static List<Case> fullWithTenNodes() {
        return List.of(
                new Case("table(0)", -2, x -> x.table(0)),
                new Case("table(2)", -2, x -> x.table(2)),
                new Case("filter(0, 2, 3, 0)", -2, x -> x.filter(0, 2, 3, 0)),
                new Case("map(0, 5, 5, 5)", -2, x -> x.map(0, 5, 5, 5)),
                new Case("join(0, 0, 2, 2, 215)", -2, x -> x.join(0, 0, 2, 2, 215)),
                new Case("combine(0, 0, 1)", -2, x -> x.combine(0, 0, 1)),
                new Case("distinct(0)", -2, x -> x.distinct(0)),
                new Case("group(0, 2, 2, 3)", -2, x -> x.group(0, 2, 2, 3)));
    }

    /** Three nodes with rows, weights of both signs, a step behind it, two changes pending. */
    private static DeltaViews ordinary() {
        DeltaViews x = new DeltaViews();
        x.table(0);
        x.table(1);
        x.combine(0, 1, 1);
        x.change(0, 1, 5, 77, 2);
        x.change(0, 2, 6, 77, 1);
        x.change(1, 1, 5, 77, 3);
        x.change(2, 4, 4, 4, 1);
        x.step();
        x.change(0, 2, 6, 77, 1);
        x.change(1, 9, 9, 9, 1);
        return x;
    }

    /** Ten nodes, the first with twelve rows, and twelve changes pending. */
    private static DeltaViews tenAndTwelve() {
        DeltaViews x = new DeltaViews();
        x.table(0);
        for (int k = 0; k < 12; k++) {
            x.change(0, k, k + 1, k + 2, 1);
        }
        x.step();
        for (int node = 1; node < 10; node++) {
            x.table(1);
        }
        for (int k = 0; k < 12; k++) {
            x.change(k % 2, k, k + 1, k + 2, 1);
        }
        return x;
    }

    /** Nodes 0 and 1 of twelve rows each, 2 their union, 3 of one row more; two changes pending. */
    private static DeltaViews withNodesBeyondTheLimits() {
        DeltaViews x = new DeltaViews();
        for (int table = 0; table < 3; table++) {
            for (int k = 0; k < (table == 2 ? 1 : 12); k++) {
                x.change(table, table, k, 0, 1);
            }
            x.step();
        }
        x.table(0);
        x.table(1);
        x.combine(0, 1, 0);
        x.table(2);
        x.change(0, 0, 0, 0, 1);
        x.change(0, 0, 1, 0, 1);
        return x;
    }

    /** Of two objects made alike one has the call; then both must answer alike, now and further on. */
    private static void changesNothing(String where, State state, Case one) {
        DeltaViews touched = state.made();
        DeltaViews twin = state.made();
        String what = where + one.name;
        Check.dueDouble(what, one.call.on(touched), one.due);
        Check.due(what + ": after it", allOf(touched), allOf(twin));
        Check.due(what + ": a step after it", touched.step(), twin.step());
        Check.due(what + ": a drop after it", touched.drop(), twin.drop());
        Check.due(what + ": a node made after it", touched.table(0), twin.table(0));
        Check.due(what + ": a change after it", touched.change(1, 7, 7, 7, 1), twin.change(1, 7, 7, 7, 1));
        Check.due(what + ": a second step", touched.step(), twin.step());
        Check.due(what + ": after all", sumsOf(touched), sumsOf(twin));
    }

    private static String allOf(DeltaViews x) {
        StringBuilder all = new StringBuilder(sumsOf(x));
        for (int table = 0; table < 3; table++) {
            for (int k = 0; k < 3; k++) {
                all.append(x.inTable(table, k, k + 1, k + 2)).append(' ');
            }
        }
        int nodes = x.count(0);
        for (int node = 0; node < nodes; node++) {
            all.append("| ");
            int rows = x.rows(node);
            for (int i = 0; i < rows; i++) {
                addRow(all, x, node, i);
            }
        }
        return all.toString();
    }

    /** Few enough calls that an object can be read in full and then so, and stay under 512. */
    private static String sumsOf(DeltaViews x) {
        StringBuilder sums = new StringBuilder();
        for (int what = 0; what < 5; what++) {
            sums.append(x.count(what)).append(' ');
        }
        int nodes = x.count(0);
        for (int node = 0; node < nodes; node++) {
            sums.append("| ").append(x.rows(node)).append(' ').append(x.total(node)).append(' ')
                    .append(x.changed(node)).append(' ').append(x.mean(node, 0)).append(' ')
                    .append(x.mean(node, 1)).append(' ').append(x.mean(node, 2)).append(' ');
        }
        return sums.toString();
    }

    private static void addRow(StringBuilder all, DeltaViews x, int node, int i) {
        long a = x.cell(node, i, 0);
        long b = x.cell(node, i, 1);
        long c = x.cell(node, i, 2);
        all.append(a).append(',').append(b).append(',').append(c).append('=')
                .append(x.weight(node, (int) a, (int) b, (int) c)).append(' ');
    }
}
