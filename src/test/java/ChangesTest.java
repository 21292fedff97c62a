/** Promises 21 to 26: CHANGES and QUARRELS. */
public final class ChangesTest {
    private static final Checks CHECKS = new Checks("ChangesTest");
    private static final String SUMS = "row a 1 2; row b 3 4; sum c 4 7; sum d 1 0; row e 5*2;"
            + "row f 6 -; sum g 6 -; sum h*3;";

    public static void main(String[] args) {
        promise21Set();
        promise21WrongInputs();
        promise21FortyAreKept();
        promise22Clear();
        promise23Undo();
        promise21To23Telling();
        promise24Quarrels();
        promise25Quarrel();
        promise26Right();
        promise26GreatSums();
        CHECKS.finish();
    }

    private static void promise21Set() {
        EarTable x = Checks.tableOf(SUMS);
        CHECKS.due("set", x.set(0, 1, -999999), 1);
        CHECKS.due("set: number", x.number(0, 1), -999999);
        CHECKS.due("set a name", x.set(0, 0, 999999), 2);
        CHECKS.due("set a name: number", x.number(0, 0), 999999);
        CHECKS.due("set a name: kind", x.cell(0, 0, 0), 1);
        CHECKS.due("set a name: letters", x.cell(0, 0, 3), 0);
        CHECKS.due("set a hole", x.set(5, 2, 0), 3);
        CHECKS.due("set a hole: kind", x.cell(5, 2, 0), 1);
        CHECKS.due("set a wide one by its second column", x.set(4, 2, 8), 4);
        CHECKS.due("set a wide one", x.number(4, 1), 8);
        CHECKS.due("set a wide one: over", x.cell(4, 1, 2), 2);
        CHECKS.due("set a sum", x.set(2, 1, 5), 5);
        CHECKS.due("set what it holds", x.set(2, 1, 5), 6);
        CHECKS.due("changes", x.about(4), 6);
        x.cut(1, 2, 5);
        CHECKS.dueView("cut by what was set", x, "4 5");
        CHECKS.due("set a line that is not in the view", x.set(0, 1, 9), 7);
        CHECKS.due("the view stays", x.set(4, 1, 1), 8);
        CHECKS.dueView("the view stays", x, "4 5");
    }

    private static void promise21WrongInputs() {
        EarTable x = Checks.tableOf("head 1 2; row 3 4;");
        CHECKS.due("set a head", x.set(-1, 0, 5), -1);
        CHECKS.due("set no line", x.set(1, 0, 5), -1);
        CHECKS.due("set no column", x.set(0, 2, 5), -1);
        CHECKS.due("set column -1", x.set(0, -1, 5), -1);
        CHECKS.due("set 1000000", x.set(0, 0, 1000000), -1);
        CHECKS.due("set -1000000", x.set(0, 0, -1000000), -1);
        CHECKS.due("set max", x.set(0, 0, Integer.MAX_VALUE), -1);
        CHECKS.due("set min", x.set(0, 0, Integer.MIN_VALUE), -1);
        CHECKS.due("clear a head", x.clear(-1, 0), -1);
        CHECKS.due("clear no line", x.clear(1, 0), -1);
        CHECKS.due("clear no column", x.clear(0, 2), -1);
        CHECKS.due("clear extremes", x.clear(Integer.MIN_VALUE, Integer.MIN_VALUE), -1);
        CHECKS.due("nothing done", x.about(4), 0);
        CHECKS.due("nothing done: number", x.number(0, 0), 3);
        CHECKS.due("nothing done: head", x.number(-1, 0), 1);
        CHECKS.due("nothing told", x.about(7), 0);
    }

    private static void promise21FortyAreKept() {
        EarTable x = Checks.tableOf("row 0 0;");
        for (int k = 1; k <= 40; k++) {
            CHECKS.due("set " + k, x.set(0, 0, k), k);
        }
        CHECKS.due("set a 41st", x.set(0, 0, 99), -1);
        CHECKS.due("clear a 41st", x.clear(0, 0), -1);
        CHECKS.due("40 stand", x.number(0, 0), 40);
        CHECKS.due("undo", x.undo(), true);
        CHECKS.due("there is room again", x.clear(0, 0), 40);
        for (int k = 39; k >= 0; k--) {
            CHECKS.due("undo " + k, x.undo(), true);
            CHECKS.due("undone " + k, x.number(0, 0), k);
        }
        CHECKS.due("undo no more", x.undo(), false);
    }

    private static void promise22Clear() {
        EarTable x = Checks.tableOf(SUMS);
        CHECKS.due("clear", x.clear(0, 1), 1);
        CHECKS.due("clear: kind", x.cell(0, 1, 0), 0);
        CHECKS.due("clear: number", x.number(0, 1), 0);
        CHECKS.due("clear a name", x.clear(0, 0), 2);
        CHECKS.due("clear a name: letters", x.cell(0, 0, 3), 0);
        CHECKS.due("clear a wide one", x.clear(4, 2), 3);
        CHECKS.due("clear a wide one: kind", x.cell(4, 1, 0), 0);
        CHECKS.due("clear a hole", x.clear(5, 2), 4);
        EarTable y = Checks.tableOf("row 5; row -; row a; row 0;");
        y.clear(0, 0);
        CHECKS.due("a hole is as a hole", y.key(9), 2);
        CHECKS.due("a hole is as a hole: line", y.place(0), 1);
        y.clear(2, 0);
        y.key(8);
        CHECKS.due("a hole is not 0", y.place(0), 3);
    }

    private static void promise23Undo() {
        EarTable x = Checks.tableOf(SUMS);
        CHECKS.due("undo none", x.undo(), false);
        x.set(0, 0, 5);
        x.clear(0, 0);
        x.set(4, 1, 2);
        CHECKS.due("undo the latest", x.undo(), true);
        CHECKS.due("undone: wide", x.number(4, 2), 5);
        CHECKS.due("undone: the one ahead stands", x.cell(0, 0, 0), 0);
        CHECKS.due("undo", x.undo(), true);
        CHECKS.due("undone: number", x.number(0, 0), 5);
        CHECKS.due("changes", x.about(4), 1);
        x.whole();
        CHECKS.due("undo in another view", x.undo(), true);
        CHECKS.due("undone: name", x.letter(0, 0, 0), 'a');
        CHECKS.due("undo no more", x.undo(), false);
    }

    private static void promise21To23Telling() {
        EarTable x = Checks.tableOf(SUMS);
        x.key(1);
        x.set(1, 1, 5);
        CHECKS.dueTold("a change elsewhere tells nothing", x, "L0 C@1");
        x.set(0, 1, 5);
        CHECKS.dueTold("a change here", x, "C@1");
        x.key(3);
        x.clear(1, 1);
        CHECKS.dueTold("a hole here", x, "C@1");
        x.key(2);
        x.undo();
        CHECKS.dueTold("undone elsewhere", x, "L0 C@1");
        x.undo();
        CHECKS.dueTold("undone here", x, "C@1");
        x.key(1);
        for (int k = 0; k < 4; k++) {
            x.key(3);
        }
        CHECKS.duePlace("in a wide cell", x, 4, 2);
        x.set(4, 1, 7);
        CHECKS.dueTold("a change of the wide cell here", x, "C@1");
        x.key(3);
        CHECKS.dueTold("a change is not what was told last", x, "L5 C@2");
        CHECKS.due("a change is no move", x.about(5), 9);
    }

    private static void promise24Quarrels() {
        EarTable x = Checks.tableOf(SUMS);
        // Line 2 column 2 (7, not 6) and line 3 column 1 (1, with no rows).
        CHECKS.due("quarrels", x.quarrels(), 2);
        x.cut(1, 2, 100);
        CHECKS.due("quarrels do not ask the view", x.quarrels(), 2);
        x.set(2, 2, 6);
        CHECKS.due("mended", x.quarrels(), 1);
        x.clear(3, 1);
        CHECKS.due("a hole is none", x.quarrels(), 0);
        x.set(7, 0, 3);
        CHECKS.due("a wide sum is none", x.quarrels(), 0);
        x.set(2, 0, 1);
        CHECKS.due("names count nothing", x.quarrels(), 1);
        x.set(2, 0, 0);
        CHECKS.due("names count nothing: 0 is right", x.quarrels(), 0);
        x.set(4, 1, 100);
        CHECKS.due("wide cells count nothing", x.quarrels(), 0);
        x.set(5, 1, 7);
        CHECKS.due("a row changed", x.quarrels(), 1);
        CHECKS.due("rows alone", Checks.tableOf("row 1; row 2;").quarrels(), 0);
        CHECKS.due("sums alone", Checks.tableOf("sum 0; sum 1;").quarrels(), 1);
    }

    private static void promise25Quarrel() {
        EarTable x = Checks.tableOf(SUMS);
        CHECKS.due("quarrel(0)", x.quarrel(0), 202);
        CHECKS.due("quarrel(1)", x.quarrel(1), 301);
        CHECKS.due("quarrel(2)", x.quarrel(2), -1);
        CHECKS.due("quarrel(-1)", x.quarrel(-1), -1);
        CHECKS.due("quarrel(min)", x.quarrel(Integer.MIN_VALUE), -1);
        CHECKS.due("quarrel(max)", x.quarrel(Integer.MAX_VALUE), -1);
        x.set(2, 1, 0);
        CHECKS.due("by line, then column: 0", x.quarrel(0), 201);
        CHECKS.due("by line, then column: 1", x.quarrel(1), 202);
        CHECKS.due("by line, then column: 2", x.quarrel(2), 301);
        EarTable y = Checks.tableOf("row 0 0 0 0 0 0 0 0;".repeat(29) + "sum 0 0 0 0 0 0 0 1;");
        CHECKS.due("the last line and column", y.quarrel(0), 2907);
        EarTable z = Checks.tableOf("sum 5 0; row 1 1;");
        CHECKS.due("the first line and column", z.quarrels(), 1);
        CHECKS.due("the first line and column", z.quarrel(0), 0);
        CHECKS.due("the first line has no rows", z.right(0), 0);
    }

    private static void promise26Right() {
        EarTable x = Checks.tableOf(SUMS);
        CHECKS.due("right(0)", x.right(0), 6);
        CHECKS.due("right(1)", x.right(1), 0);
        CHECKS.due("right(2)", x.right(2), 0);
        CHECKS.due("right(-1)", x.right(-1), 0);
        x.set(5, 1, -6);
        CHECKS.due("a changed row", x.quarrel(2), 601);
        CHECKS.due("right(2): the wide cell is left out", x.right(2), -6);
    }

    private static void promise26GreatSums() {
        EarTable x = Checks.tableOf("row 999999;".repeat(29) + "sum 0;");
        CHECKS.due("the greatest sum", x.right(0), 29L * 999999);
        EarTable y = Checks.tableOf("row -999999;".repeat(29) + "sum 0;");
        CHECKS.due("the least sum", y.right(0), -29L * 999999);
    }
}
