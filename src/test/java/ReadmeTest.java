/** The example of README.md, with the answers that it tells. */
public final class ReadmeTest {
    public static void main(String[] args) {
        DeltaViews views = new DeltaViews();
        int sales = views.table(0);
        int big = views.filter(sales, 1, 2, 100);
        int sums = views.group(big, 0, 1, 1);
        views.change(0, 7, 150, 1, 1);
        views.change(0, 7, 200, 2, 2);
        int rows = views.step();
        long sum = views.cell(sums, 0, 1);
        double mean = views.mean(big, 1);
        Check.due("rows changed in all nodes", rows, 5);
        Check.due("the sum of column 1", sum, 550);
        Check.dueDouble("its mean", mean, 550.0 / 3);
        Check.end();
    }
}
