/** Promises 27 to 30: what is asked about columns, and about the whole. */
public final class ColumnsTest {
    private static final Checks CHECKS = new Checks("ColumnsTest");

    public static void main(String[] args) {
        promise27Greatest();
        promise28Compare();
        promise29Shape();
        promise29ShapeInTheView();
        promise30About();
        CHECKS.due("NONE", EarTable.NONE, -1);
        CHECKS.finish();
    }

    private static void promise27Greatest() {
        EarTable x = Checks.tableOf("row -5 a 1; row -3 - 7*1; row -3 b 2; sum -11 - 7; row 8*3;");
        CHECKS.due("a wide one", x.greatest(0), 4);
        CHECKS.due("in any of its columns", x.greatest(1), 4);
        x.clear(4, 0);
        CHECKS.due("below 0, the first of two", x.greatest(0), 1);
        CHECKS.due("no numbers", x.greatest(1), -1);
        CHECKS.due("the first of two, a sum too", x.greatest(2), 1);
        x.set(3, 2, 8);
        CHECKS.due("a sum", x.greatest(2), 3);
        CHECKS.due("column 3", x.greatest(3), -1);
        CHECKS.due("column -1", x.greatest(-1), -1);
        x.sort(1, false);
        CHECKS.dueView("sorted", x, "2 0 1 4");
        CHECKS.due("the first in the view", x.greatest(0), 2);
        x.cut(0, 0, -4);
        CHECKS.due("cut", x.greatest(0), 0);
        x.cut(0, 0, -40);
        CHECKS.due("nothing in the view", x.greatest(0), -1);
    }

    private static void promise28Compare() {
        EarTable x = Checks.tableOf("row 1 2; row 2 2; row 3 2; sum 6 7; row a 2; row 2 -; row 4*2;");
        CHECKS.due("below", x.compare(0, 1, 0), 2);
        CHECKS.due("the same", x.compare(0, 1, 1), 2);
        CHECKS.due("above", x.compare(0, 1, 2), 1);
        CHECKS.due("above, the other way", x.compare(1, 0, 2), 2);
        CHECKS.due("a column and itself", x.compare(0, 0, 1), 6);
        CHECKS.due("what 3", x.compare(0, 1, 3), -1);
        CHECKS.due("what -1", x.compare(0, 1, -1), -1);
        CHECKS.due("a 2", x.compare(2, 1, 0), -1);
        CHECKS.due("b 2", x.compare(0, 2, 0), -1);
        CHECKS.due("a -1", x.compare(-1, 0, 0), -1);
        CHECKS.due("b -1", x.compare(0, -1, 0), -1);
        x.cut(0, 0, 3);
        CHECKS.due("in the view: below", x.compare(0, 1, 0), 1);
        CHECKS.due("in the view: above", x.compare(0, 1, 2), 0);
        CHECKS.due("extremes", x.compare(Integer.MIN_VALUE, Integer.MAX_VALUE, 0), -1);
    }

    private static void promise29Shape() {
        CHECKS.dueShape("a", 0);
        CHECKS.dueShape("1", 0);
        CHECKS.dueShape("- 1 a", 0);
        CHECKS.dueShape("1 1", 1);
        CHECKS.dueShape("0 - 0 a 0", 1);
        CHECKS.dueShape("1 2", 2);
        CHECKS.dueShape("-1 - -1 3 3", 2);
        CHECKS.dueShape("2 1", 3);
        CHECKS.dueShape("2 2 a 1 1 -5", 3);
        CHECKS.dueShape("1 2 1", 4);
        CHECKS.dueShape("1 1 2 2 - 2 1 1 0", 4);
        CHECKS.dueShape("2 1 2", 5);
        CHECKS.dueShape("2 2 1 1 3 3", 5);
        CHECKS.dueShape("1 2 1 2", 6);
        CHECKS.dueShape("2 1 2 1", 6);
        CHECKS.dueShape("1 1 2 2 1 1 1 2", 6);
        CHECKS.dueShape("3 1 1 2 2 1", 6);
        CHECKS.dueShape("-999999 999999 -999999 -999998", 6);
    }

    private static void promise29ShapeInTheView() {
        EarTable x = Checks.tableOf("row 1 a; row 3*2; sum 2 5; row 2 6;");
        CHECKS.due("whole, with a sum", x.shape(0), 4);
        CHECKS.due("whole, with a wide one", x.shape(1), 2);
        CHECKS.due("column 2", x.shape(2), -1);
        CHECKS.due("column -1", x.shape(-1), -1);
        x.sort(0, true);
        CHECKS.due("sorted up", x.shape(0), 2);
        x.sort(0, false);
        CHECKS.due("sorted down", x.shape(0), 3);
        x.cut(0, 2, 9);
        CHECKS.due("nothing in the view", x.shape(0), 0);
    }

    private static void promise30About() {
        EarTable x = Checks.tableOf("head a*2 b; head c d*2; row 1 2 3; row 4 5 6; sum 5 7 9;");
        x.key(3);
        x.key(1);
        x.set(0, 0, 2);
        x.feed(0, 0, 0, 0, 0);
        CHECKS.due("columns", x.about(0), 3);
        CHECKS.due("lines", x.about(1), 3);
        CHECKS.due("levels", x.about(2), 2);
        CHECKS.due("lines of the view", x.about(3), 3);
        CHECKS.due("changes", x.about(4), 1);
        CHECKS.due("moves", x.about(5), 2);
        CHECKS.due("bytes", x.about(6), 20);
        CHECKS.due("told", x.about(7), 2);
        CHECKS.due("about(8)", x.about(8), -1);
        CHECKS.due("about(-1)", x.about(-1), -1);
        CHECKS.due("about(max)", x.about(Integer.MAX_VALUE), -1);
        x.cut(0, 2, 3);
        CHECKS.due("cut: lines", x.about(1), 3);
        CHECKS.due("cut: lines of the view", x.about(3), 1);
        CHECKS.due("cut: changes", x.about(4), 1);
        CHECKS.due("cut: moves", x.about(5), 0);
    }
}
