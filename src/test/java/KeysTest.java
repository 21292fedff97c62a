/** Promises 14 to 18: KEYS, BACK, what they tell, and MARKS. */
public final class KeysTest {
    private static final Checks CHECKS = new Checks("KeysTest");
    //                                     0      1   2     3
    private static final String GOODS = "head -     fruit*2 cost;"
            + "head name big   small money*1;"
            + "row  a    3     4     10;"     // 0
            + "row  b    5*2         7;"      // 1
            + "sum  -    8     4     17;"     // 2
            + "row  c*2        1*2;"          // 3
            + "row  c    3     4     -;"      // 4
            + "row  a    3     4     -;";     // 5

    public static void main(String[] args) {
        promise14LeftAndRight();
        promise14UpAndDown();
        promise14FirstAndLastColumn();
        promise14FirstAndLastLine();
        promise14SomethingElseAndTheSame();
        promise14NextHead();
        promise14EdgeAndWrongKeys();
        promise14KeysInTheView();
        promise15Back();
        promise15FiftyAreKept();
        promise15NoneBehindAnotherView();
        promise16Told();
        promise16WhatIsNew();
        promise17Mark();
        promise18Go();
        promise18MarksStayOnTheirLine();
        CHECKS.finish();
    }

    private static void dueKey(EarTable x, int key, int line, int column, String told) {
        int count = x.key(key);
        CHECKS.due("key " + key + " to " + line + ", " + column, count, told.split(" ").length);
        CHECKS.duePlace("key " + key, x, line, column);
        CHECKS.dueTold("key " + key + " to " + line + ", " + column, x, told);
    }

    private static void promise14LeftAndRight() {
        EarTable x = Checks.tableOf(GOODS);
        dueKey(x, 0, 0, 0, "E");
        dueKey(x, 1, 0, 1, "H0@1 H1@1 L0 C@1");
        dueKey(x, 1, 0, 2, "H1@2 C@2");
        dueKey(x, 3, 1, 2, "L1 C@1");
        // Out of the middle of a wide CELL to the CELLS beside it.
        dueKey(x, 0, 1, 0, "H0@0 H1@0 C@0");
        dueKey(x, 1, 1, 1, "H0@1 H1@1 C@1");
        dueKey(x, 1, 1, 3, "H0@3 H1@3 C@3");
        dueKey(x, 1, 1, 3, "E");
        dueKey(x, 0, 1, 1, "H0@1 H1@1 C@1");
        x.key(7);
        x.key(2);
        x.key(2);
        dueKey(x, 1, 3, 2, "H1@2 C@2");
        dueKey(x, 1, 3, 2, "E");
        dueKey(x, 0, 3, 0, "H0@0 H1@0 C@0");
    }

    private static void promise14UpAndDown() {
        EarTable x = Checks.tableOf(GOODS);
        dueKey(x, 2, 0, 0, "E");
        dueKey(x, 3, 1, 0, "H0@0 H1@0 L1 C@0");
        dueKey(x, 3, 2, 0, "L2 C@0");
        dueKey(x, 2, 1, 0, "L1 C@0");
        x.key(7);
        dueKey(x, 3, 5, 0, "E");
    }

    private static void promise14FirstAndLastColumn() {
        EarTable x = Checks.tableOf(GOODS);
        dueKey(x, 4, 0, 0, "E");
        dueKey(x, 5, 0, 3, "H0@3 H1@3 L0 C@3");
        dueKey(x, 5, 0, 3, "E");
        x.key(7);
        x.key(2);
        x.key(2);
        // In the last CELL, not on its first column: that is another PLACE.
        dueKey(x, 5, 3, 2, "H0@1 H1@2 C@2");
        dueKey(x, 5, 3, 2, "E");
        dueKey(x, 2, 2, 2, "L2 C@2");
        dueKey(x, 0, 2, 1, "H1@1 C@1");
        dueKey(x, 3, 3, 1, "L3 C@0");
        dueKey(x, 4, 3, 0, "H0@0 H1@0 C@0");
        dueKey(x, 4, 3, 0, "E");
    }

    private static void promise14FirstAndLastLine() {
        EarTable x = Checks.tableOf(GOODS);
        dueKey(x, 6, 0, 0, "E");
        dueKey(x, 7, 5, 0, "H0@0 H1@0 L5 C@0");
        dueKey(x, 7, 5, 0, "E");
        dueKey(x, 6, 0, 0, "L0 C@0");
    }

    private static void promise14SomethingElseAndTheSame() {
        EarTable x = Checks.tableOf("row 1; row 1; row ab; row a; row -; row -; row ab; row 1;");
        dueKey(x, 8, 2, 0, "L2 C@0");
        dueKey(x, 9, 6, 0, "L6 C@0");
        dueKey(x, 9, 6, 0, "E");
        dueKey(x, 8, 7, 0, "L7 C@0");
        dueKey(x, 8, 7, 0, "E");
        dueKey(x, 6, 0, 0, "L0 C@0");
        dueKey(x, 9, 1, 0, "L1 C@0");
        dueKey(x, 9, 7, 0, "L7 C@0");
        x.key(6);
        x.key(8);
        dueKey(x, 8, 3, 0, "L3 C@0");
        dueKey(x, 8, 4, 0, "L4 C@0");
        dueKey(x, 9, 5, 0, "L5 C@0");
        dueKey(x, 9, 5, 0, "E");
        EarTable y = Checks.tableOf(GOODS);
        y.key(1);
        y.key(1);
        dueKey(y, 9, 2, 2, "L2 C@2");
        dueKey(y, 9, 4, 2, "L4 C@2");
        EarTable z = Checks.tableOf("row 0; row -; row 0;");
        dueKey(z, 8, 1, 0, "L1 C@0");
        z.key(2);
        dueKey(z, 9, 2, 0, "L2 C@0");
    }

    private static void promise14NextHead() {
        EarTable x = Checks.tableOf(GOODS);
        dueKey(x, 10, 0, 1, "H0@1 H1@1 L0 C@1");
        dueKey(x, 10, 0, 3, "H0@3 H1@3 C@3");
        dueKey(x, 10, 0, 3, "E");
        x.key(4);
        x.key(10);
        x.key(1);
        dueKey(x, 10, 0, 3, "H0@3 H1@3 C@3");
        // Into the middle of a wide CELL.
        x.key(4);
        x.key(7);
        x.key(2);
        x.key(2);
        dueKey(x, 10, 3, 1, "H0@1 H1@1 C@0");
        EarTable y = Checks.tableOf("row 1 2;");
        dueKey(y, 10, 0, 0, "E");
        EarTable z = Checks.tableOf("head a*2; head b c; row 1 2;");
        dueKey(z, 10, 0, 0, "E");
    }

    private static void promise14EdgeAndWrongKeys() {
        EarTable x = Checks.tableOf(GOODS);
        x.key(3);
        CHECKS.due("key(-1)", x.key(-1), -1);
        CHECKS.due("key(11)", x.key(11), -1);
        CHECKS.due("key(max)", x.key(Integer.MAX_VALUE), -1);
        CHECKS.due("key(min)", x.key(Integer.MIN_VALUE), -1);
        CHECKS.dueTold("wrong keys tell nothing", x, "H0@0 H1@0 L1 C@0");
        CHECKS.due("edge", x.key(4), 1);
        CHECKS.due("an edge is no move", x.about(5), 1);
        dueKey(x, 1, 1, 1, "H0@1 H1@1 C@1");
        x.cut(0, 1, 0);
        for (int key = 0; key <= 10; key++) {
            dueKey(x, key, -1, -1, "E");
        }
    }

    private static void promise14KeysInTheView() {
        EarTable x = Checks.tableOf(GOODS);
        x.sort(0, false);
        CHECKS.dueView("sorted", x, "3 4 1 0 5");
        dueKey(x, 2, 1, 0, "H0@0 H1@0 L1 C@0");
        dueKey(x, 6, 3, 0, "L3 C@0");
        dueKey(x, 9, 4, 0, "L4 C@0");
        dueKey(x, 8, 1, 0, "L1 C@0");
        dueKey(x, 3, 0, 0, "L0 C@0");
        dueKey(x, 7, 5, 0, "L5 C@0");
        EarTable y = Checks.tableOf("row 1; row 2; row 1; row 2;");
        y.cut(0, 1, 1);
        dueKey(y, 7, 2, 0, "L2 C@0");
        dueKey(y, 8, 2, 0, "E");
        dueKey(y, 9, 2, 0, "E");
    }

    private static void promise15Back() {
        EarTable x = Checks.tableOf(GOODS);
        CHECKS.due("back of none", x.back(), -1);
        x.key(3);
        x.key(0);
        x.key(1);
        x.key(10);
        CHECKS.due("moves", x.about(5), 3);
        CHECKS.due("back", x.back(), 3);
        CHECKS.dueTold("back", x, "H0@1 H1@1 C@1");
        CHECKS.duePlace("back", x, 1, 1);
        x.key(5);
        CHECKS.due("back on the latest", x.back(), 3);
        CHECKS.duePlace("back on the latest", x, 1, 1);
        CHECKS.due("back again", x.back(), 3);
        CHECKS.duePlace("back again", x, 1, 0);
        CHECKS.due("back to the start", x.back(), 2);
        CHECKS.dueTold("back to the start", x, "L0 C@0");
        CHECKS.duePlace("back to the start", x, 0, 0);
        CHECKS.due("back of no more", x.back(), -1);
        CHECKS.dueTold("back of no more tells nothing", x, "L0 C@0");
    }

    private static void promise15FiftyAreKept() {
        EarTable x = Checks.tableOf("row 1;".repeat(30));
        for (int k = 0; k < 29; k++) {
            x.key(3);
        }
        for (int k = 0; k < 24; k++) {
            x.key(2);
        }
        CHECKS.due("53 moves", x.about(5), 50);
        int count = 0;
        while (count < 100 && x.back() != -1) {
            count++;
        }
        CHECKS.due("as many can be gone back on", count, 50);
        CHECKS.duePlace("the first three are gone", x, 3, 0);
        EarTable y = Checks.tableOf("row 1 2 3;".repeat(3));
        int[] round = {1, 3, 1, 3, 0, 2, 0, 2};
        int[] lines = new int[60];
        int[] columns = new int[60];
        for (int k = 0; k < 60; k++) {
            lines[k] = y.place(0);
            columns[k] = y.place(1);
            y.key(round[k % 8]);
        }
        CHECKS.due("60 moves", y.about(5), 50);
        for (int k = 59; k >= 10; k--) {
            y.back();
            CHECKS.duePlace("back on move " + k, y, lines[k], columns[k]);
        }
        CHECKS.due("the first ten are gone", y.back(), -1);
    }

    private static void promise15NoneBehindAnotherView() {
        EarTable x = Checks.tableOf(GOODS);
        x.key(3);
        x.whole();
        CHECKS.due("whole: back", x.back(), -1);
        x.key(3);
        x.cut(1, 2, 0);
        CHECKS.due("cut: back", x.back(), -1);
        x.key(3);
        x.sort(1, true);
        CHECKS.due("sort: back", x.back(), -1);
        x.key(7);
        CHECKS.due("a move in this view", x.back() > 0, true);
    }

    private static void promise16Told() {
        EarTable x = Checks.tableOf(GOODS);
        CHECKS.due("nothing told", x.told(0, 0), -1);
        x.key(1);
        CHECKS.due("head", x.told(1, 0), 1);
        CHECKS.due("its level", x.told(1, 1), 1);
        CHECKS.due("its first column", x.told(1, 2), 1);
        CHECKS.due("line", x.told(2, 0), 2);
        CHECKS.due("no level", x.told(2, 1), -1);
        CHECKS.due("the line", x.told(2, 2), 0);
        CHECKS.due("cell", x.told(3, 0), 3);
        CHECKS.due("no level of a cell", x.told(3, 1), -1);
        CHECKS.due("its first column", x.told(3, 2), 1);
        CHECKS.due("what 3", x.told(3, 3), -1);
        CHECKS.due("what -1", x.told(3, -1), -1);
        CHECKS.due("the fifth", x.told(4, 0), -1);
        CHECKS.due("told(-1)", x.told(-1, 0), -1);
        CHECKS.due("told(max)", x.told(Integer.MAX_VALUE, 0), -1);
        x.key(2);
        CHECKS.due("edge", x.told(0, 0), 0);
        CHECKS.due("edge: no level", x.told(0, 1), -1);
        CHECKS.due("edge: no place", x.told(0, 2), -1);
        CHECKS.due("edge alone", x.told(1, 0), -1);
        x.key(1);
        x.whole();
        CHECKS.dueTold("a view tells nothing itself", x, "H1@2 C@2");
    }

    private static void promise16WhatIsNew() {
        EarTable x = Checks.tableOf("head a*2 b; head c d*2; head e*3; row 1 2 3; row 4*2 5;");
        dueKey(x, 1, 0, 1, "H0@0 H1@1 H2@0 L0 C@1");
        dueKey(x, 1, 0, 2, "H0@2 C@2");
        dueKey(x, 0, 0, 1, "H0@0 C@1");
        dueKey(x, 0, 0, 0, "H1@0 C@0");
        dueKey(x, 0, 0, 0, "E");
        dueKey(x, 3, 1, 0, "L1 C@0");
        x.sort(0, true);
        dueKey(x, 2, 0, 0, "H0@0 H1@0 H2@0 L0 C@0");
        x.whole();
        CHECKS.due("a change tells its cell", x.set(0, 0, 7), 1);
        CHECKS.dueTold("a change tells its cell", x, "C@0");
        dueKey(x, 3, 1, 0, "H0@0 H1@0 H2@0 L1 C@0");
    }

    private static void promise17Mark() {
        EarTable x = Checks.tableOf(GOODS);
        CHECKS.due("mark(-1)", x.mark(-1), false);
        CHECKS.due("mark(5)", x.mark(5), false);
        CHECKS.due("mark(max)", x.mark(Integer.MAX_VALUE), false);
        CHECKS.due("mark(4)", x.mark(4), true);
        x.key(3);
        CHECKS.due("mark(0)", x.mark(0), true);
        x.key(5);
        CHECKS.due("mark(0) anew", x.mark(0), true);
        x.key(7);
        x.go(0);
        CHECKS.duePlace("mark(0)", x, 1, 3);
        x.go(4);
        CHECKS.duePlace("mark(4)", x, 0, 0);
        x.cut(0, 1, 0);
        CHECKS.due("mark nowhere", x.mark(0), false);
        x.whole();
        x.go(0);
        CHECKS.duePlace("mark nowhere did nothing", x, 1, 3);
    }

    private static void promise18Go() {
        EarTable x = Checks.tableOf(GOODS);
        x.key(1);
        x.mark(1);
        x.key(7);
        x.key(1);
        CHECKS.due("go", x.go(1), 3);
        CHECKS.dueTold("go", x, "H1@1 L0 C@1");
        CHECKS.duePlace("go", x, 0, 1);
        CHECKS.due("go: a move", x.about(5), 4);
        CHECKS.due("go: there already", x.go(1), 1);
        CHECKS.dueTold("go: there already", x, "E");
        CHECKS.due("go: no move", x.about(5), 4);
        CHECKS.due("go: not told", x.go(0), -1);
        CHECKS.due("go(-1)", x.go(-1), -1);
        CHECKS.due("go(5)", x.go(5), -1);
        CHECKS.due("go(min)", x.go(Integer.MIN_VALUE), -1);
        CHECKS.dueTold("go: none tells nothing", x, "E");
        CHECKS.due("go: back", x.back(), 3);
        CHECKS.duePlace("go: back", x, 5, 2);
        x.key(6);
        CHECKS.due("go: to another column of the line", x.go(1), 2);
        CHECKS.dueTold("go: to another column of the line", x, "H1@1 C@1");
    }

    private static void promise18MarksStayOnTheirLine() {
        EarTable x = Checks.tableOf(GOODS);
        x.key(3);
        x.key(1);
        x.mark(2);
        x.sort(0, false);
        x.key(7);
        CHECKS.due("sorted: go", x.go(2) > 0, true);
        CHECKS.duePlace("sorted: go", x, 1, 1);
        x.cut(1, 0, 5);
        int line = x.place(0);
        CHECKS.due("cut: go", x.go(2), -1);
        CHECKS.due("cut: go did nothing", x.place(0), line);
        x.cut(1, 0, -99);
        CHECKS.due("nowhere: go", x.go(2), -1);
        x.whole();
        CHECKS.due("whole: go", x.go(2), 4);
        CHECKS.duePlace("whole: go", x, 1, 1);
    }
}
