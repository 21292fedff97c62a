/** The edges that the VIEW, the PLACE and promises 9 to 13 name, a test for each sentence. */
public final class ViewEdgesTest {
    private static final Checks CHECKS = new Checks("ViewEdgesTest");
    private static final int LEAST = Integer.MIN_VALUE;
    private static final int GREATEST = Integer.MAX_VALUE;

    public static void main(String[] args) {
        termAtFirstAllLines();
        promise9BelowTheSameAbove();
        promise9ValuesBeyondAllNumbers();
        promise9HolesAndNamesAreNoNumbers();
        promise9SumsGo();
        promise9EmptyViewStaysEmpty();
        promise9CutsTheViewAsItIs();
        promise9NoSuchColumnOrWhat();
        promise10NumbersNamesHoles();
        promise10BeginningAheadOfTheLonger();
        promise10LikeOnesAlone();
        promise10HolesLastBothWays();
        promise10SumsGo();
        promise10OneOrNone();
        promise10ThirtyRows();
        promise10NoSuchColumn();
        promise11OutOfEveryView();
        promise12EndsOfTheView();
        promise13AtFirst();
        promise13OtherWhat();
        promise13LineIsInItStill();
        promise13FirstBehindThatIsInIt();
        promise13ElseTheLastAhead();
        promise13InTheViewAsItWas();
        promise13Nowhere();
        promise13OutOfNowhere();
        promise13ColumnStays();
        CHECKS.finish();
    }

    /** "at first all in theirs". */
    private static void termAtFirstAllLines() {
        CHECKS.dueView("rows and sums", Checks.tableOf("sum 1;row 2;sum 3;"), "0 1 2");
        CHECKS.dueView("none", Checks.tableOf("head a;"), "");
    }

    private static void dueCut(String text, int what, int value, String want) {
        EarTable x = Checks.tableOf(text);
        String call = "cut(0, " + what + ", " + value + ") of " + text;
        CHECKS.due(call, x.cut(0, what, value), want.isEmpty() ? 0 : want.split(" ").length);
        CHECKS.dueView(call, x, want);
    }

    /** "below, the same as, or above a value". */
    private static void promise9BelowTheSameAbove() {
        String text = "row 4;row 5;row 6;row -5;";
        dueCut(text, 0, 5, "0 3");
        dueCut(text, 1, 5, "1");
        dueCut(text, 2, 5, "2");
        dueCut(text, 0, -5, "");
        dueCut(text, 1, -5, "3");
        dueCut(text, 2, -5, "0 1 2");
    }

    private static void promise9ValuesBeyondAllNumbers() {
        String text = "row 999999;row -999999;row 0;";
        dueCut(text, 0, LEAST, "");
        dueCut(text, 1, LEAST, "");
        dueCut(text, 2, LEAST, "0 1 2");
        dueCut(text, 0, GREATEST, "0 1 2");
        dueCut(text, 1, GREATEST, "");
        dueCut(text, 2, GREATEST, "");
        dueCut(text, 0, 999999, "1 2");
        dueCut(text, 2, 999998, "0");
        dueCut(text, 0, -999998, "1");
    }

    /** "holds a number": a HOLE is not 0, and letters are none. */
    private static void promise9HolesAndNamesAreNoNumbers() {
        String text = "row -;row a;row 0;row zzzzzzzzzz;";
        dueCut(text, 1, 0, "2");
        dueCut(text, 0, 1, "2");
        dueCut(text, 2, -1, "2");
        dueCut(text, 2, LEAST, "2");
        dueCut(text, 0, GREATEST, "2");
        dueCut(text, 1, 1, "");
    }

    /** "(sums go)". */
    private static void promise9SumsGo() {
        dueCut("row 1;sum 1;row 1;sum 1;", 1, 1, "0 2");
        dueCut("sum 1;sum 1;", 1, 1, "");
    }

    private static void promise9EmptyViewStaysEmpty() {
        EarTable x = Checks.tableOf("row 1;row 2;");
        x.cut(0, 1, 9);
        CHECKS.due("cut of none", x.cut(0, 1, 1), 0);
        CHECKS.due("sort of none", x.sort(0, true), 0);
        CHECKS.due("lines of the view", x.about(3), 0);
        CHECKS.due("cut of no lines", Checks.tableOf("head a;").cut(0, 1, 1), 0);
    }

    /** "those rows of it stay": of the VIEW, cut and in its order. */
    private static void promise9CutsTheViewAsItIs() {
        EarTable x = Checks.tableOf("row 1 3;row 2 2;row 3 1;row 4 2;");
        x.sort(0, false);
        x.cut(1, 0, 3);
        CHECKS.dueView("sorted, then cut", x, "3 2 1");
        x.cut(1, 1, 2);
        CHECKS.dueView("cut again", x, "3 1");
        CHECKS.due("what was cut does not come back", x.cut(1, 2, 0), 2);
    }

    /** "NONE, doing nothing, if there is no such column, or what." */
    private static void promise9NoSuchColumnOrWhat() {
        EarTable x = Checks.tableOf("row 1 2;row 3 4;");
        for (int column : new int[] {-1, 2, 8, LEAST, GREATEST}) {
            CHECKS.due("cut: column " + column, x.cut(column, 1, 1), -1);
        }
        for (int what : new int[] {-1, 3, LEAST, GREATEST}) {
            CHECKS.due("cut: what " + what, x.cut(0, what, 1), -1);
        }
        CHECKS.dueView("cut: nothing done", x, "0 1");
        CHECKS.due("cut: the last column", x.cut(1, 1, 4), 1);
        CHECKS.due("cut: no columns", new EarTable().cut(0, 1, 1), -1);
    }

    private static void dueSorted(String contents, String up, String down) {
        EarTable x = Checks.rowsOf(contents);
        x.sort(0, true);
        CHECKS.dueView("sorted up: " + contents, x, up);
        x.whole();
        x.sort(0, false);
        CHECKS.dueView("sorted the other way: " + contents, x, down);
    }

    /** "numbers first by their size, then NAMES by their letters, then HOLES"; "the other way". */
    private static void promise10NumbersNamesHoles() {
        dueSorted("- a 1", "2 1 0", "1 2 0");
        dueSorted("10 9 -10 -9 0", "2 3 4 1 0", "0 1 4 3 2");
        dueSorted("999999 -999999", "1 0", "0 1");
        dueSorted("b a z", "1 0 2", "2 0 1");
    }

    /** "(a NAME that is the beginning of another ahead of it)". */
    private static void promise10BeginningAheadOfTheLonger() {
        dueSorted("ab a", "1 0", "0 1");
        dueSorted("aaaaaaaaaa aaaaaaaaa aaaaaaaaab", "1 0 2", "2 0 1");
        dueSorted("b az aa a", "3 2 1 0", "0 1 2 3");
        dueSorted("zzzzzzzzzz z", "1 0", "0 1");
    }

    /** "like ones stay in order". */
    private static void promise10LikeOnesAlone() {
        dueSorted("1 1 1", "0 1 2", "0 1 2");
        dueSorted("a a a", "0 1 2", "0 1 2");
        dueSorted("- - -", "0 1 2", "0 1 2");
        dueSorted("0 -0 00", "0 1 2", "0 1 2");
        dueSorted("2 1 2 1", "1 3 0 2", "0 2 1 3");
    }

    /** "(HOLES last all the same)". */
    private static void promise10HolesLastBothWays() {
        dueSorted("- 1 - 2 -", "1 3 0 2 4", "3 1 0 2 4");
        dueSorted("- b - a", "3 1 0 2", "1 3 0 2");
        dueSorted("- -1", "1 0", "1 0");
    }

    /** "its rows (sums go)". */
    private static void promise10SumsGo() {
        EarTable x = Checks.tableOf("sum 1;row 3;sum 2;row 2;sum -;");
        CHECKS.due("sums go", x.sort(0, true), 2);
        CHECKS.dueView("sums go", x, "3 1");
        CHECKS.due("sums alone", Checks.tableOf("sum 1;").sort(0, false), 0);
    }

    private static void promise10OneOrNone() {
        dueSorted("5", "0", "0");
        CHECKS.due("no lines", Checks.tableOf("head a;").sort(0, true), 0);
        CHECKS.due("no columns", new EarTable().sort(0, true), -1);
    }

    private static void promise10ThirtyRows() {
        StringBuilder text = new StringBuilder();
        StringBuilder turned = new StringBuilder();
        for (int k = 0; k < 30; k++) {
            text.append("row ").append(100 - k).append(';');
            turned.append(k == 0 ? "" : " ").append(29 - k);
        }
        EarTable x = Checks.tableOf(text.toString());
        CHECKS.due("thirty rows", x.sort(0, true), 30);
        CHECKS.dueView("thirty rows", x, turned.toString());
        CHECKS.duePlace("thirty rows", x, 0, 0);
        CHECKS.due("thirty rows: the place is on the last one", x.key(7), 1);
    }

    /** "likewise": NONE, doing nothing, if there is no such column. */
    private static void promise10NoSuchColumn() {
        EarTable x = Checks.tableOf("row 2 1;row 1 2;");
        for (int column : new int[] {-1, 2, 8, LEAST, GREATEST}) {
            CHECKS.due("sort: column " + column, x.sort(column, true), -1);
            CHECKS.dueView("sort: column " + column, x, "0 1");
        }
        CHECKS.due("sort: the last column", x.sort(1, false), 2);
        CHECKS.dueView("sort: the last column", x, "1 0");
    }

    /** "WHOLE: all LINES in their order again." */
    private static void promise11OutOfEveryView() {
        EarTable x = Checks.tableOf("row 2;sum 2;row 1;");
        CHECKS.due("whole of the whole", x.whole(), 3);
        x.sort(0, true);
        CHECKS.due("whole of a sorted one", x.whole(), 3);
        CHECKS.dueView("whole of a sorted one", x, "0 1 2");
        x.cut(0, 1, 9);
        CHECKS.due("whole of none", x.whole(), 3);
        CHECKS.dueView("whole of none", x, "0 1 2");
        CHECKS.due("whole of no lines", Checks.tableOf("head a;").whole(), 0);
    }

    /** "The k-th LINE of the VIEW; NONE." */
    private static void promise12EndsOfTheView() {
        EarTable x = Checks.tableOf("row 1;".repeat(30));
        CHECKS.due("lineAt(29)", x.lineAt(29), 29);
        CHECKS.due("lineAt(30)", x.lineAt(30), -1);
        x.cut(0, 1, 9);
        CHECKS.due("lineAt(0) of none", x.lineAt(0), -1);
        EarTable y = Checks.tableOf("row 2;row 1;");
        y.cut(0, 1, 1);
        CHECKS.due("lineAt(0) of one", y.lineAt(0), 1);
        for (int k : new int[] {1, -1, LEAST, GREATEST}) {
            CHECKS.due("lineAt(" + k + ") of one", y.lineAt(k), -1);
        }
    }

    /** "at first the first LINE, column 0". */
    private static void promise13AtFirst() {
        CHECKS.duePlace("a row", Checks.tableOf("head a b;row 1 2;"), 0, 0);
        CHECKS.duePlace("a sum", Checks.tableOf("sum 1*2;"), 0, 0);
        CHECKS.duePlace("no lines", Checks.tableOf("head a;"), -1, -1);
        CHECKS.duePlace("no table", new EarTable(), -1, -1);
    }

    /** "NONE nowhere, or for another what." */
    private static void promise13OtherWhat() {
        EarTable x = Checks.tableOf("row 1;");
        for (int what : new int[] {-1, 2, LEAST, GREATEST}) {
            CHECKS.due("place(" + what + ")", x.place(what), -1);
        }
    }

    /** A table of one column, with the PLACE on a LINE of it. */
    private static EarTable placedOn(String text, int line) {
        EarTable x = Checks.tableOf(text);
        for (int k = 0; k < line; k++) {
            x.key(3);
        }
        return x;
    }

    /** "the LINE, if it is in it still". */
    private static void promise13LineIsInItStill() {
        String text = "row 3;row 1;row 2;";
        for (int line = 0; line < 3; line++) {
            EarTable x = placedOn(text, line);
            x.sort(0, true);
            CHECKS.duePlace("sorted, line " + line, x, line, 0);
            x.cut(0, 1, x.number(line, 0));
            CHECKS.duePlace("cut, line " + line, x, line, 0);
            x.whole();
            CHECKS.duePlace("whole, line " + line, x, line, 0);
        }
    }

    /** "else the first one behind it, in the VIEW as it was, that is in the new one". */
    private static void promise13FirstBehindThatIsInIt() {
        EarTable x = placedOn("row 1;row 2;row 2;row 1;row 1;", 1);
        x.cut(0, 1, 1);
        CHECKS.duePlace("not the nearer one ahead", x, 3, 0);
        EarTable y = placedOn("row 1;sum 9;row 1;", 1);
        y.sort(0, true);
        CHECKS.duePlace("a sum that went", y, 2, 0);
        EarTable z = placedOn("row 2;row 2;row 2;row 1;", 0);
        z.cut(0, 1, 1);
        CHECKS.duePlace("from the first to the last", z, 3, 0);
    }

    /** "else the last one ahead of it". */
    private static void promise13ElseTheLastAhead() {
        EarTable x = placedOn("row 1;row 1;row 2;row 2;", 3);
        x.cut(0, 1, 1);
        CHECKS.duePlace("the last of those ahead", x, 1, 0);
        EarTable y = placedOn("row 1;row 2;row 2;row 2;", 3);
        y.cut(0, 1, 1);
        CHECKS.duePlace("from the last to the first", y, 0, 0);
        EarTable z = placedOn("row 2;row 1;sum 3;", 2);
        z.sort(0, true);
        CHECKS.dueView("the last sum went", z, "1 0");
        CHECKS.duePlace("the last one ahead, as the view was", z, 1, 0);
    }

    private static void promise13InTheViewAsItWas() {
        EarTable x = Checks.tableOf("row 1 1;row 2 2;row 3 1;row 4 1;");
        x.sort(0, false);
        x.key(6);
        x.key(3);
        x.key(3);
        CHECKS.duePlace("sorted the other way", x, 1, 0);
        x.cut(1, 1, 1);
        CHECKS.duePlace("behind it stood line 0", x, 0, 0);
    }

    /** "else nowhere"; "nowhere if the VIEW is empty". */
    private static void promise13Nowhere() {
        EarTable x = placedOn("row 1;row 2;", 1);
        x.cut(0, 1, 3);
        CHECKS.duePlace("cut to none", x, -1, -1);
        x.sort(0, true);
        CHECKS.duePlace("sorted, still none", x, -1, -1);
        EarTable y = placedOn("sum 1;sum 2;", 1);
        y.sort(0, true);
        CHECKS.duePlace("sums alone went", y, -1, -1);
    }

    /** "Out of nowhere: the first LINE." */
    private static void promise13OutOfNowhere() {
        EarTable x = placedOn("sum 9;row 1;row 2;", 2);
        x.cut(0, 1, 3);
        x.whole();
        CHECKS.duePlace("out of nowhere", x, 0, 0);
        Checks.give(x, "row 1;");
        x.cut(0, 1, 3);
        x.table();
        CHECKS.duePlace("a table out of nowhere", x, 0, 0);
    }

    /** "When the VIEW changes, the column stays": in the middle of a wide CELL too. */
    private static void promise13ColumnStays() {
        EarTable x = Checks.tableOf("row 1 2 3;row 4*3;");
        x.key(1);
        x.cut(0, 1, 4);
        CHECKS.duePlace("in the middle of a cell", x, 1, 1);
        x.cut(0, 1, 9);
        x.whole();
        CHECKS.duePlace("through nowhere", x, 0, 1);
        x.sort(2, false);
        CHECKS.duePlace("sorted by another column", x, 0, 1);
        Checks.give(x, "row 1 2 3;");
        x.table();
        CHECKS.duePlace("another table", x, 0, 0);
    }
}
