/** Counts the answers that are not as due; every test ends with {@link #end}. */
final class Check {
    private static int asked = 0;
    private static int wrong = 0;
    private static String sentence = "";

    private Check() {
    }

    /** The sentence of the document that the next answers test; it is printed with each wrong one. */
    static void sentence(String text) {
        sentence = text;
    }

    private static void tell(String what, String got, String want) {
        wrong++;
        String told = sentence.isEmpty() ? "" : " (the document: " + sentence + ")";
        System.out.println(what + " answered " + got + ", due is " + want + told);
    }

    static void due(String what, String got, String want) {
        asked++;
        if (!got.equals(want)) {
            tell(what, got, want);
        }
    }

    static void due(String what, long got, long want) {
        asked++;
        if (got != want) {
            tell(what, Long.toString(got), Long.toString(want));
        }
    }

    static void dueDouble(String what, double got, double want) {
        asked++;
        if (Double.doubleToLongBits(got) != Double.doubleToLongBits(want)) {
            tell(what, Double.toString(got), Double.toString(want));
        }
    }

    /** Each row is a, b, c, weight; the node must hold these rows in this order and no others. */
    static void dueRows(String what, DeltaViews x, int node, long[]... rows) {
        due(what + ": rows", x.rows(node), rows.length);
        long total = 0;
        for (int i = 0; i < rows.length; i++) {
            long[] row = rows[i];
            for (int column = 0; column < 3; column++) {
                due(what + ": cell(" + i + ", " + column + ")", x.cell(node, i, column), row[column]);
            }
            due(what + ": weight of row " + i, x.weight(node, (int) row[0], (int) row[1], (int) row[2]), row[3]);
            total += row[3];
        }
        due(what + ": the cell behind the last", x.cell(node, rows.length, 0), DeltaViews.NONE);
        due(what + ": total", x.total(node), total);
    }

    static long[] row(long a, long b, long c, long weight) {
        return new long[] {a, b, c, weight};
    }

    /** Brings rows a, b, c, weight (from 1 to 36 in all changes) into a table by one step. */
    static void put(DeltaViews x, int table, long[]... rows) {
        for (long[] row : rows) {
            long left = row[3];
            while (left != 0) {
                int by = (int) Math.max(-3, Math.min(3, left));
                x.change(table, (int) row[0], (int) row[1], (int) row[2], by);
                left -= by;
            }
        }
        int answer = x.step();
        if (answer < 0) {
            due("a step that prepares a test", answer, 0);
        }
    }

    static void end() {
        System.out.println(asked - wrong + " answers as due, " + wrong + " not");
        if (wrong != 0 || asked == 0) {
            System.exit(1);
        }
    }
}
