/** The edges that CHANGES, QUARRELS, SHAPE and promises 21 to 30 name, a test for each sentence. */
public final class ChangeEdgesTest {
    private static final Checks CHECKS = new Checks("ChangeEdgesTest");
    private static final int LEAST = Integer.MIN_VALUE;
    private static final int GREATEST = Integer.MAX_VALUE;

    public static void main(String[] args) {
        promise21NumbersBeyond();
        promise21NoSuchCell();
        promises21And22FortyStand();
        promise21WhateverItHeld();
        promise22NoSuchCell();
        promise23LatestFirst();
        promise23NoneStands();
        promises21To23TheViewStays();
        promises21To23PlaceOnThatCell();
        promises21To23Nowhere();
        promise24NoNumberNoQuarrel();
        promise24OverOneColumnAlone();
        promise24RowsSinceTheSumAhead();
        promise24LinesOutOfTheView();
        promise25NoneSuch();
        promise25EveryCellOfEverySum();
        promise26GreatestAndLeastSum();
        promise26NoneSuch();
        promise27FirstOfTheGreatest();
        promise27None();
        promise28BothHoldNumbers();
        promise28NoSuchColumn();
        promise29FewerThanTwo();
        promise29LeastThatHolds();
        promise29OthersLeftOut();
        promise29NoSuchColumn();
        promise30Mosts();
        promise30OtherWhat();
        CHECKS.finish();
    }

    /** "the number is beyond 999999 either way". */
    private static void promise21NumbersBeyond() {
        EarTable x = Checks.tableOf("row 5;");
        for (int number : new int[] {1000000, -1000000, GREATEST, LEAST}) {
            CHECKS.due("set " + number, x.set(0, 0, number), -1);
            CHECKS.due("set " + number + ": nothing done", x.number(0, 0), 5);
        }
        CHECKS.due("set: none stands", x.about(4), 0);
        int count = 0;
        for (int number : new int[] {999999, -999999, 0}) {
            count++;
            CHECKS.due("set " + number, x.set(0, 0, number), count);
            CHECKS.due("set " + number + ": held", x.number(0, 0), number);
        }
    }

    /** "NONE, doing nothing, if there is no such CELL": a HEAD is no CELL of a LINE. */
    private static void promise21NoSuchCell() {
        EarTable x = Checks.tableOf("head 1 2;head 3 4;row 5 6;row 7 8;");
        int[][] wrong = {{-1, 0}, {-2, 0}, {-3, 0}, {2, 0}, {30, 0}, {GREATEST, 0}, {LEAST, 0},
            {0, -1}, {0, 2}, {0, 8}, {0, GREATEST}, {0, LEAST}};
        for (int[] cell : wrong) {
            CHECKS.due("set " + cell[0] + ", " + cell[1], x.set(cell[0], cell[1], 9), -1);
        }
        CHECKS.due("set: none stands", x.about(4), 0);
        CHECKS.dueCells("level 0", x, -1, "1 2");
        CHECKS.dueCells("level 1", x, -2, "3 4");
        CHECKS.dueCells("first line", x, 0, "5 6");
        CHECKS.dueCells("last line", x, 1, "7 8");
        CHECKS.due("the last cell", x.set(1, 1, 9), 1);
        CHECKS.due("no table", new EarTable().set(0, 0, 0), -1);
    }

    /** "or 40 stand". */
    private static void promises21And22FortyStand() {
        EarTable x = Checks.tableOf("row 0 5;");
        for (int k = 1; k <= 40; k++) {
            CHECKS.due("change " + k, k % 2 == 0 ? x.clear(0, 0) : x.set(0, 0, k), k);
        }
        CHECKS.due("a 41st: set", x.set(0, 1, 6), -1);
        CHECKS.due("a 41st: clear", x.clear(0, 1), -1);
        CHECKS.due("a 41st: nothing done", x.number(0, 1), 5);
        CHECKS.due("a 41st: 40 stand", x.about(4), 40);
        CHECKS.due("undo", x.undo(), true);
        CHECKS.due("39 stand", x.about(4), 39);
        CHECKS.due("a 40th again", x.set(0, 1, 6), 40);
        CHECKS.due("a 41st again", x.set(0, 1, 7), -1);
        x.undo();
        CHECKS.dueCells("the latest alone is undone", x, 0, "39 5");
        for (int k = 0; k < 39; k++) {
            CHECKS.due("undo " + k, x.undo(), true);
        }
        CHECKS.due("no more", x.undo(), false);
        CHECKS.dueCells("as it was", x, 0, "0 5");
    }

    /** "a CELL holds a number": whatever it held, over all its columns. */
    private static void promise21WhateverItHeld() {
        EarTable x = Checks.tableOf("row aaaaaaaaaa - 5 b*2;sum 1 2 3 4 5;");
        for (int column = 0; column < 5; column++) {
            CHECKS.due("set " + column, x.set(0, column, column), column + 1);
        }
        CHECKS.dueCells("row", x, 0, "0 1 2 4");
        CHECKS.due("a wide one stays wide", x.cell(0, 3, 2), 2);
        CHECKS.due("no letters", x.letter(0, 0, 0), -1);
        CHECKS.due("a sum", x.set(1, 4, -1), 6);
        for (int k = 0; k < 6; k++) {
            x.undo();
        }
        CHECKS.dueCells("undone", x, 0, "aaaaaaaaaa - 5 b");
        CHECKS.dueCells("undone", x, 1, "1 2 3 4 5");
    }

    /** "likewise": NONE, doing nothing, if there is no such CELL. */
    private static void promise22NoSuchCell() {
        EarTable x = Checks.tableOf("head 1 2;row 5 6;");
        int[][] wrong = {{-1, 0}, {-2, 0}, {1, 0}, {GREATEST, 0}, {LEAST, 0}, {0, -1}, {0, 2},
            {0, GREATEST}, {0, LEAST}};
        for (int[] cell : wrong) {
            CHECKS.due("clear " + cell[0] + ", " + cell[1], x.clear(cell[0], cell[1]), -1);
        }
        CHECKS.due("clear: none stands", x.about(4), 0);
        CHECKS.dueCells("level 0", x, -1, "1 2");
        CHECKS.dueCells("line 0", x, 0, "5 6");
        CHECKS.due("clear the last", x.clear(0, 1), 1);
        CHECKS.dueCells("cleared", x, 0, "5 -");
        CHECKS.due("clear a hole", x.clear(0, 1), 2);
        CHECKS.due("no table", new EarTable().clear(0, 0), -1);
    }

    /** "Each can be UNDONE, the latest first." */
    private static void promise23LatestFirst() {
        EarTable x = Checks.tableOf("row a 1;");
        x.set(0, 0, 2);
        x.set(0, 1, 3);
        x.clear(0, 0);
        x.set(0, 0, 4);
        String[] held = {"- 3", "2 3", "2 1", "a 1"};
        for (int k = 0; k < held.length; k++) {
            CHECKS.due("undo", x.undo(), true);
            CHECKS.dueCells("undone", x, 0, held[k]);
            CHECKS.due("undone: how many stand", x.about(4), 3 - k);
        }
    }

    /** "false if none stands". */
    private static void promise23NoneStands() {
        CHECKS.due("no table", new EarTable().undo(), false);
        EarTable x = Checks.tableOf("row 1;");
        CHECKS.due("none yet", x.undo(), false);
        x.set(0, 0, 2);
        x.undo();
        CHECKS.due("none any more", x.undo(), false);
        CHECKS.due("none any more: number", x.number(0, 0), 1);
        x.set(0, 0, 1000000);
        CHECKS.due("a refused one is none", x.undo(), false);
        x.set(0, 0, 2);
        Checks.give(x, "row 3;");
        x.table();
        CHECKS.due("another table", x.undo(), false);
        CHECKS.due("another table: number", x.number(0, 0), 3);
    }

    /** "(The VIEW stays as it is." */
    private static void promises21To23TheViewStays() {
        EarTable x = Checks.tableOf("row 1;row 2;row 3;");
        x.sort(0, false);
        x.set(0, 0, 9);
        CHECKS.dueView("sorted, then set", x, "2 1 0");
        x.clear(2, 0);
        CHECKS.dueView("sorted, then cleared", x, "2 1 0");
        x.undo();
        x.undo();
        CHECKS.dueView("sorted, then undone", x, "2 1 0");
        x.cut(0, 0, 3);
        x.set(1, 0, 9);
        x.set(2, 0, 0);
        CHECKS.dueView("cut, then set", x, "1 0");
        x.key(2);
        x.set(0, 0, 7);
        CHECKS.due("moves stay", x.about(5), 1);
        CHECKS.due("changes stay in another view", x.whole() + x.about(4), 6);
    }

    /** "If the PLACE is on that CELL, it TELLS (3) alone.)": on any of its columns. */
    private static void promises21To23PlaceOnThatCell() {
        EarTable x = Checks.tableOf("head a b;row 1 2;row 3*2;");
        x.set(0, 1, 5);
        CHECKS.due("another cell of the line", x.about(7), 0);
        x.set(1, 0, 5);
        CHECKS.due("another line", x.about(7), 0);
        x.set(0, 0, 5);
        CHECKS.dueTold("that cell", x, "C@0");
        CHECKS.duePlace("that cell", x, 0, 0);
        x.key(1);
        CHECKS.dueTold("it was not told by a key", x, "H0@1 L0 C@1");
        x.key(3);
        x.clear(1, 0);
        CHECKS.dueTold("by another column of it", x, "C@0");
        x.key(2);
        x.set(1, 1, 5);
        CHECKS.dueTold("another line's cell over it", x, "L0 C@1");
        x.undo();
        CHECKS.dueTold("another line's cell undone", x, "L0 C@1");
        x.key(3);
        x.key(2);
        x.key(3);
        x.undo();
        CHECKS.dueTold("undone", x, "C@0");
        x.key(0);
        CHECKS.dueTold("the edge", x, "E");
        x.set(1, 0, 1000000);
        CHECKS.dueTold("refused", x, "E");
    }

    private static void promises21To23Nowhere() {
        EarTable x = Checks.tableOf("row 1;row 2;");
        x.cut(0, 1, 9);
        CHECKS.due("nowhere: set", x.set(0, 0, 9), 1);
        CHECKS.due("nowhere: clear", x.clear(1, 0), 2);
        CHECKS.due("nowhere: nothing is told", x.about(7), 0);
        CHECKS.due("nowhere: undo", x.undo(), true);
        CHECKS.due("nowhere: nothing is told", x.about(7), 0);
        CHECKS.due("nowhere: the view stays", x.about(3), 0);
        CHECKS.due("nowhere: held", x.number(0, 0), 9);
    }

    private static void dueQuarrels(String text, String want) {
        EarTable x = Checks.tableOf(text);
        StringBuilder got = new StringBuilder();
        for (int k = 0; k < x.quarrels(); k++) {
            got.append(k == 0 ? "" : " ").append(x.quarrel(k)).append(':').append(x.right(k));
        }
        CHECKS.dueText("quarrels of " + text, got.toString(), want);
        CHECKS.due("no more quarrels of " + text, x.quarrel(x.quarrels()), -1);
    }

    /** "CELLS of sums ... that hold a number which is not the sum". */
    private static void promise24NoNumberNoQuarrel() {
        dueQuarrels("row 1;sum -;", "");
        dueQuarrels("row 1;sum a;", "");
        dueQuarrels("row 1;sum 1;", "");
        dueQuarrels("row 1;sum 2;", "100:1");
        dueQuarrels("row 1;row 2;", "");
        dueQuarrels("row a;row -;sum 0;", "");
        dueQuarrels("row a;row -;sum 1;", "200:0");
        dueQuarrels("head 5;row 1;sum 1;", "");
        dueQuarrels("row 5;row -5;sum 0;", "");
        dueQuarrels("", "");
    }

    /** "(over one column)": of the sum's CELL, and of the rows' CELLS. */
    private static void promise24OverOneColumnAlone() {
        dueQuarrels("row 1 1;sum 9*2;", "");
        dueQuarrels("row 1 1;sum 9*1 1;", "100:1");
        dueQuarrels("row 1 1;row 5*2;sum 1 1;", "");
        dueQuarrels("row 1 1;row 5*2;sum 6 1;", "200:1");
        dueQuarrels("row 5*2;sum 5 5;", "100:0 101:0");
    }

    /** "in the rows since the sum ahead (or the first LINE)". */
    private static void promise24RowsSinceTheSumAhead() {
        dueQuarrels("sum 0;", "");
        dueQuarrels("sum 1;", "0:0");
        dueQuarrels("sum 1;sum 1;", "0:0 100:0");
        dueQuarrels("row 1;sum 1;sum 1;", "200:0");
        dueQuarrels("row 1;sum 1;row 2;sum 3;", "300:2");
        dueQuarrels("row 1;sum 1;row 2;sum 2;", "");
        dueQuarrels("row 1;sum -;row 2;sum 3;", "300:2");
        dueQuarrels("row 1 1;sum 9*2;row 2 2;sum 3 2;", "300:2");
        dueQuarrels("row 1;sum 2;row 5;", "100:1");
    }

    private static void promise24LinesOutOfTheView() {
        EarTable x = Checks.tableOf("row 1;row 2;sum 4;");
        x.cut(0, 1, 9);
        CHECKS.due("an empty view", x.quarrels(), 1);
        CHECKS.due("an empty view: right", x.right(0), 3);
        x.set(2, 0, 3);
        CHECKS.due("mended", x.quarrels(), 0);
        x.undo();
        CHECKS.due("undone", x.quarrels(), 1);
    }

    /** "The k-th (by LINE, then column) ...; NONE." */
    private static void promise25NoneSuch() {
        EarTable x = Checks.tableOf("row 1 1;sum 2 2;");
        for (int k : new int[] {2, -1, 240, LEAST, GREATEST}) {
            CHECKS.due("quarrel(" + k + ")", x.quarrel(k), -1);
        }
        CHECKS.due("quarrel(1)", x.quarrel(1), 101);
        CHECKS.due("no quarrels", Checks.tableOf("row 1;sum 1;").quarrel(0), -1);
    }

    private static void promise25EveryCellOfEverySum() {
        EarTable x = Checks.tableOf("sum 1 1 1 1 1 1 1 1;".repeat(30));
        CHECKS.due("every cell quarrels", x.quarrels(), 240);
        CHECKS.due("the ninth", x.quarrel(8), 100);
        CHECKS.due("the last", x.quarrel(239), 2907);
        CHECKS.due("one more", x.quarrel(240), -1);
    }

    private static void promise26GreatestAndLeastSum() {
        dueQuarrels("row 999999;".repeat(29) + "sum 999999;", "2900:28999971");
        dueQuarrels("row -999999;".repeat(29) + "sum -999999;", "2900:-28999971");
    }

    /** "0 if there is none such." */
    private static void promise26NoneSuch() {
        EarTable x = Checks.tableOf("row 1;sum 2;");
        for (int k : new int[] {1, -1, LEAST, GREATEST}) {
            CHECKS.due("right(" + k + ")", x.right(k), 0);
        }
        CHECKS.due("no quarrels", Checks.tableOf("row 1;sum 1;").right(0), 0);
    }

    /** "The first LINE of the VIEW with the greatest number in a column". */
    private static void promise27FirstOfTheGreatest() {
        EarTable x = Checks.tableOf("row 1 a;row 7 b;sum 7 c;row 7 d;");
        CHECKS.due("the first of three", x.greatest(0), 1);
        x.sort(1, false);
        CHECKS.due("the first of the view", x.greatest(0), 3);
        CHECKS.due("one alone", Checks.tableOf("row -999999;").greatest(0), 0);
        CHECKS.due("below 0", Checks.tableOf("row -9;row a;row -3;row -;").greatest(0), 2);
        CHECKS.due("0 behind a hole", Checks.tableOf("row -;row 0;").greatest(0), 1);
    }

    /** "NONE if there is none." */
    private static void promise27None() {
        EarTable x = Checks.tableOf("row 1 a;row 2 -;");
        CHECKS.due("no numbers", x.greatest(1), -1);
        for (int column : new int[] {-1, 2, LEAST, GREATEST}) {
            CHECKS.due("greatest(" + column + ")", x.greatest(column), -1);
        }
        x.cut(0, 1, 9);
        CHECKS.due("an empty view", x.greatest(0), -1);
        CHECKS.due("no table", new EarTable().greatest(0), -1);
        CHECKS.due("no lines", Checks.tableOf("head 1;").greatest(0), -1);
    }

    private static void dueCompared(String text, int below, int same, int above) {
        EarTable x = Checks.tableOf(text);
        int[] want = {below, same, above};
        for (int what = 0; what <= 2; what++) {
            CHECKS.due("compare(0, 1, " + what + ") of " + text, x.compare(0, 1, what), want[what]);
            int turned = x.compare(1, 0, 2 - what);
            CHECKS.due("compare(1, 0, " + (2 - what) + ") of " + text, turned, want[what]);
        }
    }

    /** "In how many LINES of the VIEW both columns hold numbers". */
    private static void promise28BothHoldNumbers() {
        dueCompared("row 1 2;", 1, 0, 0);
        dueCompared("row 2 2;", 0, 1, 0);
        dueCompared("sum 3 2;", 0, 0, 1);
        dueCompared("row -999999 999999;", 1, 0, 0);
        dueCompared("row 1 -;row - 1;row a 1;row 1 a;row - -;row a a;", 0, 0, 0);
        dueCompared("row 0 -;row - 0;", 0, 0, 0);
        dueCompared("row 5*2;", 0, 1, 0);
        dueCompared("head 1 2;", 0, 0, 0);
        dueCompared("row 1 2 3;".repeat(30), 30, 0, 0);
        EarTable x = Checks.tableOf("row 1 2;");
        CHECKS.due("a column and itself", x.compare(1, 1, 1), 1);
        x.cut(0, 1, 9);
        CHECKS.due("an empty view", x.compare(0, 1, 0), 0);
    }

    /** "NONE if one is none." */
    private static void promise28NoSuchColumn() {
        EarTable x = Checks.tableOf("row 1 2;");
        for (int column : new int[] {-1, 2, 8, LEAST, GREATEST}) {
            CHECKS.due("compare(" + column + ", 0)", x.compare(column, 0, 1), -1);
            CHECKS.due("compare(0, " + column + ")", x.compare(0, column, 1), -1);
            CHECKS.due("compare of both " + column, x.compare(column, column, 1), -1);
        }
        for (int what : new int[] {-1, 3, LEAST, GREATEST}) {
            CHECKS.due("compare: what " + what, x.compare(0, 1, what), -1);
        }
        CHECKS.due("no table", new EarTable().compare(0, 0, 0), -1);
    }

    /** "0 fewer than two". */
    private static void promise29FewerThanTwo() {
        CHECKS.dueShape("5", 0);
        CHECKS.dueShape("-", 0);
        CHECKS.dueShape("a - a 7 -", 0);
        CHECKS.dueShape("a b", 0);
        CHECKS.due("no lines", Checks.tableOf("head 1;").shape(0), 0);
        EarTable x = Checks.tableOf("row 1;row 2;");
        x.cut(0, 1, 2);
        CHECKS.due("one left in the view", x.shape(0), 0);
        x.cut(0, 1, 9);
        CHECKS.due("none left in the view", x.shape(0), 0);
    }

    /** "(the least number that holds)": the least runs that are of each. */
    private static void promise29LeastThatHolds() {
        CHECKS.dueShape("0 0", 1);
        CHECKS.dueShape("0 1", 2);
        CHECKS.dueShape("0 0 1", 2);
        CHECKS.dueShape("0 1 1", 2);
        CHECKS.dueShape("1 0", 3);
        CHECKS.dueShape("1 1 0", 3);
        CHECKS.dueShape("1 0 0", 3);
        CHECKS.dueShape("0 1 0", 4);
        CHECKS.dueShape("0 1 1 0", 4);
        CHECKS.dueShape("0 0 1 0 0", 4);
        CHECKS.dueShape("1 0 1", 5);
        CHECKS.dueShape("1 0 0 1", 5);
        CHECKS.dueShape("1 1 0 1 1", 5);
        CHECKS.dueShape("0 1 0 1", 6);
        CHECKS.dueShape("1 0 1 0", 6);
        CHECKS.dueShape("0 1 1 0 0 1", 6);
        CHECKS.dueShape("-999999 999999", 2);
        CHECKS.dueShape("999999 -999999", 3);
    }

    /** "(others left out)". */
    private static void promise29OthersLeftOut() {
        CHECKS.dueShape("- 1 a 1 -", 1);
        CHECKS.dueShape("-1 - 0", 2);
        CHECKS.dueShape("1 - 2 zzzzzzzzzz", 2);
        CHECKS.dueShape("1 - 0", 3);
        CHECKS.dueShape("1 a 2 - 1", 4);
        EarTable x = Checks.tableOf("row 1 0;sum 5 1;row 2*2;");
        CHECKS.due("sums and wide cells are in it", x.shape(0), 4);
        CHECKS.due("a wide cell by its second column", x.shape(1), 2);
        x.sort(0, true);
        CHECKS.due("sums went", x.shape(0), 2);
    }

    /** "NONE if there is no such column." */
    private static void promise29NoSuchColumn() {
        EarTable x = Checks.tableOf("row 1 2;row 2 3;");
        for (int column : new int[] {-1, 2, 8, LEAST, GREATEST}) {
            CHECKS.due("shape(" + column + ")", x.shape(column), -1);
        }
        CHECKS.due("the last column", x.shape(1), 2);
        CHECKS.due("no table", new EarTable().shape(0), -1);
    }

    /** Each of them at the most that the document lets there be. */
    private static void promise30Mosts() {
        EarTable x = Checks.tableOf("head a b c d e f g h;".repeat(3)
                + "row 1 2 3 4 5 6 7 8;".repeat(30));
        x.key(1);
        CHECKS.due("the most told", x.about(7), 5);
        for (int k = 0; k < 81; k++) {
            x.key(k % 2 == 0 ? 1 : 0);
            x.set(29, 0, k);
            x.feed(0, 0, 0, 0, 0);
        }
        int[] most = {8, 30, 3, 30, 40, 50, 1600, 4};
        for (int what = 0; what <= 7; what++) {
            CHECKS.due("the most of about(" + what + ")", x.about(what), most[what]);
        }
    }

    /** "NONE for another what." */
    private static void promise30OtherWhat() {
        EarTable x = Checks.tableOf("row 1;");
        for (int what : new int[] {-1, 8, LEAST, GREATEST}) {
            CHECKS.due("about(" + what + ")", x.about(what), -1);
        }
    }
}
