/** The edges that KEYS and promises 14 to 20 name, a test for each sentence. */
public final class KeyEdgesTest {
    private static final Checks CHECKS = new Checks("KeyEdgesTest");
    private static final String WIDE = "head a*2 b*2;row 1*2 2*2;row 1 2 3 4;row 5*4;";

    public static void main(String[] args) {
        promise14LeftOfTheFirstCell();
        promise14RightOfTheLastCell();
        promise14UpAndDownAtTheEnds();
        promise14FirstColumnThereAlready();
        promise14LastCellThereAlready();
        promise14FirstAndLastLineThereAlready();
        promise14SomethingElseBehind();
        promise14TheSameBehind();
        promise14WhatIsAlike();
        promise14AnotherHead();
        promise14OneCellAlone();
        promise14Nowhere();
        promise14EdgeMovesNothing();
        promise14AnotherKey();
        promise14AllIsToldAtFirst();
        promise14AllIsToldInAnotherView();
        promise14AllIsToldOfAnotherTable();
        promise14OtherCellsThatHoldTheSame();
        promise14ColumnInAWideCell();
        promise15NoneToGoBackOn();
        promise15FiftyAreKept();
        promise15MovesAfterGoingBack();
        promise15BackIsNoMove();
        promise15NoneBehindAnotherTable();
        promise16NoneSuch();
        promise16TheMostIsTold();
        promise17NoSuchMark();
        promise17Nowhere();
        promise18NotTold();
        promise18NotInTheView();
        promise18ThereAlready();
        promise18AsAKeyThatMoves();
        promise19ThereAlready();
        promise19NoSuchWay();
        promise19GreatestTable();
        promise20TheLeastOfAllWays();
        promise20NoneIfNoneOrThere();
        CHECKS.finish();
    }

    private static EarTable at(String text, String keys) {
        EarTable x = Checks.tableOf(text);
        for (String key : keys.split(" ")) {
            if (!key.isEmpty()) {
                x.key(Integer.parseInt(key));
            }
        }
        return x;
    }

    /** A key at the EDGE "moves nothing" and "tells EDGE alone". */
    private static void dueEdge(String text, String keys, int key) {
        EarTable x = at(text, keys);
        int line = x.place(0);
        int column = x.place(1);
        int moves = x.about(5);
        String call = "key " + key + " behind " + keys + " in " + text;
        CHECKS.due(call, x.key(key), 1);
        CHECKS.dueTold(call, x, "E");
        CHECKS.duePlace(call, x, line, column);
        CHECKS.due(call + ": moves", x.about(5), moves);
    }

    private static void dueMove(String text, String keys, int key, int line, int column) {
        EarTable x = at(text, keys);
        int moves = x.about(5);
        String call = "key " + key + " behind " + keys + " in " + text;
        x.key(key);
        CHECKS.duePlace(call, x, line, column);
        CHECKS.due(call + ": moves", x.about(5), moves + 1);
    }

    /** "0 left ...: to the first column of the CELL ahead"; "there is none such". */
    private static void promise14LeftOfTheFirstCell() {
        dueEdge(WIDE, "", 0);
        dueEdge(WIDE, "3 1 2", 0);
        dueEdge(WIDE, "3 5 3", 0);
        dueMove(WIDE, "3 1 1 2", 0, 0, 0);
        dueMove(WIDE, "3 5 2", 0, 0, 0);
        dueMove(WIDE, "3 1", 0, 1, 0);
    }

    /** "1 right: to the first column of the CELL ... behind"; "there is none such". */
    private static void promise14RightOfTheLastCell() {
        dueEdge(WIDE, "1", 1);
        dueEdge(WIDE, "3 5 2", 1);
        dueEdge(WIDE, "7", 1);
        dueEdge(WIDE, "3 1 3", 1);
        dueMove(WIDE, "3 1 2", 1, 0, 2);
        dueMove(WIDE, "3 1 1", 1, 1, 3);
    }

    /** "2 up, 3 down: the LINE ahead, behind, in the VIEW". */
    private static void promise14UpAndDownAtTheEnds() {
        dueEdge(WIDE, "", 2);
        dueEdge(WIDE, "7", 3);
        dueEdge("row 1;", "", 2);
        dueEdge("row 1;", "", 3);
        EarTable x = Checks.tableOf("row 2;row 1;row 2;row 1;");
        x.cut(0, 1, 1);
        CHECKS.due("the first of the view: up", x.key(2), 1);
        CHECKS.duePlace("the first of the view: up", x, 1, 0);
        x.key(3);
        CHECKS.duePlace("the next of the view", x, 3, 0);
        CHECKS.due("the last of the view: down", x.key(3), 1);
        CHECKS.duePlace("the last of the view: down", x, 3, 0);
    }

    /** "4 the first column"; "4 .. 7: it is there already". */
    private static void promise14FirstColumnThereAlready() {
        dueEdge(WIDE, "", 4);
        dueEdge(WIDE, "5 4", 4);
        dueMove(WIDE, "3 1 2", 4, 0, 0);
        dueMove(WIDE, "3 5 3", 4, 2, 0);
    }

    /** "5 the first column of the last CELL". */
    private static void promise14LastCellThereAlready() {
        dueEdge(WIDE, "5", 5);
        dueEdge(WIDE, "7", 5);
        dueMove(WIDE, "", 5, 0, 2);
        dueMove(WIDE, "3 5 2", 5, 0, 2);
        dueMove(WIDE, "3 5 3", 5, 2, 0);
        dueMove(WIDE, "3", 5, 1, 3);
    }

    /** "6 the first LINE, 7 the last". */
    private static void promise14FirstAndLastLineThereAlready() {
        dueEdge(WIDE, "", 6);
        dueEdge(WIDE, "7", 7);
        dueEdge("sum 1 2;", "1", 6);
        dueEdge("sum 1 2;", "1", 7);
        dueMove(WIDE, "3 5", 7, 2, 3);
        dueMove(WIDE, "3 5", 6, 0, 3);
    }

    /** "8 the first LINE behind whose CELL in this column holds something else". */
    private static void promise14SomethingElseBehind() {
        dueEdge("row 1;row 1;row 1;", "", 8);
        dueEdge("row 2;row 1;row 1;", "3", 8);
        dueEdge("row -;row -;", "", 8);
        dueEdge("row a;row a;", "", 8);
        dueEdge("row 1;row 2;", "7", 8);
        dueMove("row 1;row 1;row 1;sum 2;", "", 8, 3, 0);
        dueMove("row 1 1;row 1 2;row 2 1;", "1", 8, 1, 1);
        dueMove("row 1;row 2;row 3;", "", 8, 1, 0);
    }

    /** "9 the same as this one". */
    private static void promise14TheSameBehind() {
        dueEdge("row 1;row 2;row 3;", "", 9);
        dueEdge("row 1;row 2;row 1;", "7", 9);
        dueEdge("row 1 2;row 2 1;", "", 9);
        dueMove("row 1;row 2;row 2;sum 1;", "", 9, 3, 0);
        dueMove("row 1;row 1;row 1;", "", 9, 1, 0);
    }

    /** "(nothing is as nothing; numbers alike; NAMES alike)". */
    private static void promise14WhatIsAlike() {
        dueMove("row -;row a;row 0;row -;", "", 9, 3, 0);
        dueMove("row 0;row -;row a;row -0;", "", 9, 3, 0);
        dueMove("row 7;row -7;row 70;row 007;", "", 9, 3, 0);
        dueMove("row ab;row a;row abc;row ab;", "", 9, 3, 0);
        dueEdge("row a;row aa;row b;row -;", "", 9);
        dueMove("row -;row 0;", "", 8, 1, 0);
        dueMove("row 1;row a;", "", 8, 1, 0);
        dueMove("row a;row aa;", "", 8, 1, 0);
        // Held by a wide CELL it is the same.
        dueMove("row 1 2;row 1*2;", "", 9, 1, 0);
        dueEdge("row 1 2;row 1*2;", "", 8);
        dueMove("row 1 2;row 2*2;", "1", 9, 1, 1);
        dueEdge("row -0;row 0;", "", 8);
    }

    /** "10 right to the first column whose HEAD of level 0 is another CELL than this column's". */
    private static void promise14AnotherHead() {
        dueMove(WIDE, "", 10, 0, 2);
        dueMove(WIDE, "3 1", 10, 1, 2);
        dueMove(WIDE, "7", 10, 2, 2);
        dueEdge(WIDE, "10", 10);
        dueEdge(WIDE, "3 5", 10);
        dueEdge("row 1 2;", "", 10);
        dueEdge("row 1 2 3;", "1", 10);
        dueEdge("head a*2;head b c;row 1 2;", "", 10);
        // Another CELL, though it holds the same.
        dueMove("head a a;row 1 2;", "", 10, 0, 1);
        dueMove("head - -;row 1*2;", "", 10, 0, 1);
        dueMove("head 1*7 1;row a*8;", "", 10, 0, 7);
    }

    private static void promise14OneCellAlone() {
        for (int key = 0; key <= 10; key++) {
            dueEdge("row 1;", "", key);
            dueEdge("head a;sum -;", "", key);
            dueEdge("head a*8;row 1*8;", "", key);
        }
    }

    /** "One that leads nowhere else (...; nowhere) is at the EDGE". */
    private static void promise14Nowhere() {
        EarTable x = at(WIDE, "3 1");
        x.cut(0, 1, 99);
        for (int key = 0; key <= 10; key++) {
            CHECKS.due("nowhere: key " + key, x.key(key), 1);
            CHECKS.dueTold("nowhere: key " + key, x, "E");
            CHECKS.duePlace("nowhere: key " + key, x, -1, -1);
        }
        CHECKS.due("nowhere: moves", x.about(5), 0);
    }

    /** "A key at the EDGE tells EDGE alone", and is not what was told last. */
    private static void promise14EdgeMovesNothing() {
        EarTable x = Checks.tableOf(WIDE);
        x.key(2);
        x.key(3);
        CHECKS.dueTold("an edge ahead of the first move", x, "H0@0 L1 C@0");
        x.key(0);
        x.key(1);
        CHECKS.dueTold("an edge between two moves", x, "C@1");
        x.key(10);
        x.key(10);
        CHECKS.due("an edge: back", x.back(), 2);
        CHECKS.dueTold("an edge: back", x, "H0@0 C@1");
    }

    /** "NONE, doing nothing, for another." */
    private static void promise14AnotherKey() {
        EarTable x = at(WIDE, "3");
        for (int key : new int[] {-1, 11, 12, Integer.MIN_VALUE, Integer.MAX_VALUE}) {
            CHECKS.due("key(" + key + ")", x.key(key), -1);
            CHECKS.dueTold("key(" + key + ")", x, "H0@0 L1 C@0");
            CHECKS.duePlace("key(" + key + ")", x, 1, 0);
        }
    }

    /** "nothing, at first ... (all of (1), (2) are told then)": of LINE 0 and column 0 too. */
    private static void promise14AllIsToldAtFirst() {
        CHECKS.dueTold("right", at("head a*2;head b c;row 1 2;", "1"), "H0@0 H1@1 L0 C@1");
        CHECKS.dueTold("down", at("head a*2;row 1 2;row 3 4;", "3"), "H0@0 L1 C@0");
        CHECKS.dueTold("no heads", at("row 1 2;", "1"), "L0 C@1");
    }

    /** "when ... the VIEW was told anew": by each of the three calls. */
    private static void promise14AllIsToldInAnotherView() {
        String text = "head a*2;row 1 1;row 1 1;";
        EarTable x = at(text, "1 0");
        x.cut(0, 1, 1);
        x.key(1);
        CHECKS.dueTold("cut", x, "H0@0 L0 C@1");
        x.key(0);
        CHECKS.dueTold("cut, then told", x, "C@0");
        x.sort(0, true);
        x.key(1);
        CHECKS.dueTold("sorted", x, "H0@0 L0 C@1");
        x.whole();
        x.key(0);
        CHECKS.dueTold("whole", x, "H0@0 L0 C@0");
        x.cut(2, 1, 1);
        x.cut(0, 3, 1);
        x.sort(-1, true);
        x.key(1);
        CHECKS.dueTold("refused", x, "C@1");
    }

    /** "when the table ... was told anew": not if it has a FAULT. */
    private static void promise14AllIsToldOfAnotherTable() {
        EarTable x = at("head a*2;row 1 2;", "1");
        Checks.give(x, "head a*2;row 1 2;");
        x.table();
        CHECKS.due("told", x.about(7), 0);
        x.key(1);
        CHECKS.dueTold("another table", x, "H0@0 L0 C@1");
        Checks.give(x, "row");
        x.table();
        x.key(0);
        CHECKS.dueTold("a fault", x, "C@0");
    }

    /** "if it is another CELL than that of the column told last": what it holds is not asked. */
    private static void promise14OtherCellsThatHoldTheSame() {
        EarTable x = at("head a a;head b*2;row 1 1;", "1 0");
        CHECKS.dueTold("a head that holds the same", x, "H0@0 C@0");
    }

    /** Told by its first column, while the PLACE keeps its own for what is new. */
    private static void promise14ColumnInAWideCell() {
        EarTable x = at("head a b;row 1 2;row 3*2;row 4 5;", "1 3");
        CHECKS.dueTold("a wide cell by its second column", x, "L1 C@0");
        x.key(3);
        CHECKS.dueTold("out of it again", x, "L2 C@1");
        CHECKS.duePlace("out of it again", x, 2, 1);
    }

    /** "NONE, doing nothing, if there is none to go back on." */
    private static void promise15NoneToGoBackOn() {
        EarTable x = at(WIDE, "0 2");
        CHECKS.due("edges alone", x.back(), -1);
        CHECKS.dueTold("edges alone", x, "E");
        x.key(3);
        x.back();
        CHECKS.due("gone back on", x.back(), -1);
        CHECKS.dueTold("gone back on", x, "L0 C@0");
        CHECKS.duePlace("gone back on", x, 0, 0);
    }

    /** "(50 are kept ...)": a 51st takes the place of the first. */
    private static void promise15FiftyAreKept() {
        for (int moves = 49; moves <= 52; moves++) {
            EarTable x = Checks.tableOf("row 1 2;row 3 4;");
            for (int k = 0; k < moves; k++) {
                x.key(k == 0 ? 3 : k % 2 == 1 ? 1 : 0);
            }
            int kept = Math.min(50, moves);
            CHECKS.due(moves + " moves", x.about(5), kept);
            for (int k = 0; k < kept; k++) {
                CHECKS.due(moves + " moves: back " + k, x.back() > 0, true);
                CHECKS.due(moves + " moves: left " + k, x.about(5), kept - 1 - k);
            }
            CHECKS.due(moves + " moves: no more", x.back(), -1);
            CHECKS.duePlace(moves + " moves", x, moves > 50 ? 1 : 0, moves == 52 ? 1 : 0);
        }
    }

    /** "the latest key that moved and is not gone back on yet", with all fifty kept. */
    private static void promise15MovesAfterGoingBack() {
        EarTable x = Checks.tableOf("row 1 2;row 3 4;");
        for (int k = 0; k < 55; k++) {
            x.key(k % 2 == 0 ? 1 : 0);
        }
        for (int k = 0; k < 5; k++) {
            x.back();
        }
        CHECKS.duePlace("five back", x, 0, 0);
        x.key(3);
        CHECKS.due("one more", x.about(5), 46);
        x.back();
        CHECKS.duePlace("back on it", x, 0, 0);
        x.back();
        CHECKS.duePlace("back on the one ahead of it", x, 0, 1);
        CHECKS.due("back on the one ahead of it", x.about(5), 44);
    }

    private static void promise15BackIsNoMove() {
        EarTable x = at(WIDE, "3 1");
        x.back();
        CHECKS.due("back is no move", x.about(5), 1);
        x.back();
        CHECKS.duePlace("back is not gone back on", x, 0, 0);
    }

    /** "none behind another VIEW or table". */
    private static void promise15NoneBehindAnotherTable() {
        EarTable x = at(WIDE, "3 1");
        Checks.give(x, "row");
        x.table();
        CHECKS.due("a fault: moves stay", x.about(5), 2);
        x.end(0);
        Checks.give(x, WIDE);
        x.table();
        CHECKS.due("another table: moves", x.about(5), 0);
        CHECKS.due("another table: back", x.back(), -1);
        x.key(3);
        x.cut(9, 1, 1);
        x.sort(9, true);
        CHECKS.due("refused: moves stay", x.about(5), 1);
    }

    /** "NONE if there is none such (of 0, 2, 3 no level)." */
    private static void promise16NoneSuch() {
        EarTable x = at(WIDE, "1");
        for (int k : new int[] {-1, 3, 4, 5, Integer.MIN_VALUE, Integer.MAX_VALUE}) {
            for (int what = 0; what <= 2; what++) {
                CHECKS.due("told(" + k + ", " + what + ")", x.told(k, what), -1);
            }
        }
        for (int what : new int[] {-1, 3, Integer.MIN_VALUE, Integer.MAX_VALUE}) {
            CHECKS.due("told(0, " + what + ")", x.told(0, what), -1);
        }
        CHECKS.due("a line has no level", x.told(1, 1), -1);
        CHECKS.due("a cell has no level", x.told(2, 1), -1);
        x.key(2);
        CHECKS.due("an edge has no level", x.told(0, 1), -1);
        CHECKS.due("an edge has no column", x.told(0, 2), -1);
        CHECKS.due("what was told ahead of it is gone", x.told(1, 0), -1);
    }

    private static void promise16TheMostIsTold() {
        EarTable x = at("head a b;head a b;head a b;row 1 2;", "1");
        CHECKS.due("the most", x.about(7), 5);
        CHECKS.dueTold("the most", x, "H0@1 H1@1 H2@1 L0 C@1");
        CHECKS.due("told(4, 0)", x.told(4, 0), 3);
        CHECKS.due("told(5, 0)", x.told(5, 0), -1);
    }

    /** "MARK k (0 .. 4)": "false, doing nothing, if there is none such". */
    private static void promise17NoSuchMark() {
        EarTable x = at(WIDE, "3");
        for (int k : new int[] {-1, 5, Integer.MIN_VALUE, Integer.MAX_VALUE}) {
            CHECKS.due("mark(" + k + ")", x.mark(k), false);
        }
        for (int k = 0; k <= 4; k++) {
            CHECKS.due("not told: go(" + k + ")", x.go(k), -1);
        }
        for (int k = 0; k <= 4; k++) {
            CHECKS.due("mark(" + k + ")", x.mark(k), true);
            x.key(k == 2 ? 3 : 1);
        }
        int[] columns = {0, 1, 2, 2, 2};
        CHECKS.duePlace("the last key is at the edge", x, 2, 2);
        for (int k = 3; k >= 0; k--) {
            x.go(k);
            CHECKS.duePlace("go(" + k + ")", x, k == 3 ? 2 : 1, columns[k]);
        }
        x.go(4);
        CHECKS.duePlace("go(4)", x, 2, 2);
    }

    /** "or it is nowhere". */
    private static void promise17Nowhere() {
        EarTable x = at(WIDE, "3");
        x.mark(0);
        x.cut(0, 1, 99);
        CHECKS.due("nowhere: mark(0)", x.mark(0), false);
        CHECKS.due("nowhere: mark(1)", x.mark(1), false);
        x.whole();
        CHECKS.due("nowhere: nothing done to 1", x.go(1), -1);
        x.go(0);
        CHECKS.duePlace("nowhere: nothing done to 0", x, 1, 0);
        CHECKS.due("no table: mark(0)", new EarTable().mark(0), false);
    }

    /** "NONE, doing nothing, if it is not told". */
    private static void promise18NotTold() {
        EarTable x = at(WIDE, "3");
        for (int k : new int[] {-1, 0, 4, 5, Integer.MIN_VALUE, Integer.MAX_VALUE}) {
            CHECKS.due("go(" + k + ")", x.go(k), -1);
            CHECKS.duePlace("go(" + k + ")", x, 1, 0);
            CHECKS.dueTold("go(" + k + ")", x, "H0@0 L1 C@0");
        }
        x.mark(0);
        Checks.give(x, WIDE);
        x.table();
        CHECKS.due("another table: go(0)", x.go(0), -1);
    }

    /** "or its LINE is not in the VIEW". */
    private static void promise18NotInTheView() {
        EarTable x = at("row 1;row 2;row 3;", "3");
        x.mark(0);
        x.cut(0, 1, 3);
        CHECKS.due("cut away", x.go(0), -1);
        CHECKS.duePlace("cut away", x, 2, 0);
        CHECKS.due("cut away: moves", x.about(5), 0);
        x.cut(0, 1, 4);
        CHECKS.due("nowhere", x.go(0), -1);
        CHECKS.duePlace("nowhere", x, -1, -1);
        x.whole();
        CHECKS.due("there again", x.go(0), 2);
        CHECKS.duePlace("there again", x, 1, 0);
    }

    /** "(EDGE if it is there already)": another column of the same CELL is elsewhere. */
    private static void promise18ThereAlready() {
        EarTable x = at("row 1 2;row 3*2;", "1 3");
        x.mark(0);
        CHECKS.due("there", x.go(0), 1);
        CHECKS.dueTold("there", x, "E");
        CHECKS.due("there: moves", x.about(5), 2);
        x.key(4);
        CHECKS.due("another column of the cell", x.go(0), 1);
        CHECKS.dueTold("another column of the cell", x, "C@0");
        CHECKS.duePlace("another column of the cell", x, 1, 1);
        CHECKS.due("another column of the cell: moves", x.about(5), 4);
        x.whole();
        CHECKS.due("there in another view", x.go(0), 1);
        CHECKS.dueTold("there in another view", x, "E");
    }

    /** "To MARK k, as a key that moves": BACK leads away from it again, and it is told last. */
    private static void promise18AsAKeyThatMoves() {
        EarTable x = at("head a b;row 1 2;row 3 4;", "3 1");
        x.mark(0);
        x.whole();
        x.key(6);
        x.key(4);
        CHECKS.due("go", x.go(0), 3);
        CHECKS.dueTold("go", x, "H0@1 L1 C@1");
        x.key(0);
        CHECKS.dueTold("behind go", x, "H0@0 C@0");
        x.back();
        CHECKS.due("back on go", x.back(), 3);
        CHECKS.duePlace("back on go", x, 0, 0);
        for (int k = 0; k < 51; k++) {
            x.go(0);
            x.key(k % 2 == 0 ? 4 : 6);
        }
        CHECKS.due("fifty are kept of both", x.about(5), 50);
    }

    /** "The fewest keys (0 .. 10) from the PLACE": none if it is there. */
    private static void promise19ThereAlready() {
        CHECKS.due("here", Checks.tableOf(WIDE).keys(0, 0), 0);
        EarTable x = at(WIDE, "3 1 3");
        CHECKS.duePlace("in the middle of a cell", x, 2, 1);
        CHECKS.due("in the middle of a cell", x.keys(2, 1), 0);
        CHECKS.due("another column of the cell", x.keys(2, 0), 1);
        CHECKS.due("the next column of the cell", x.keys(2, 2), 1);
    }

    /** "NONE if there is no such way." */
    private static void promise19NoSuchWay() {
        EarTable x = Checks.tableOf("head a*2;row 1*2;row 2*2;");
        CHECKS.due("inside cells alone", x.keys(0, 1), -1);
        CHECKS.due("inside cells alone, another line", x.keys(1, 1), -1);
        EarTable y = Checks.tableOf("head a b;row 1*2;row 2*2;");
        CHECKS.due("by heads", y.keys(1, 1), 2);
        int[][] wrong = {{2, 0}, {-1, 0}, {-2, 0}, {0, 2}, {0, -1}, {30, 0}, {0, 8},
            {Integer.MAX_VALUE, 0}, {Integer.MIN_VALUE, 0}, {0, Integer.MAX_VALUE},
            {0, Integer.MIN_VALUE}};
        for (int[] goal : wrong) {
            CHECKS.due("keys to " + goal[0] + ", " + goal[1], y.keys(goal[0], goal[1]), -1);
            CHECKS.due("first to " + goal[0] + ", " + goal[1], y.first(goal[0], goal[1]), -1);
        }
        y.cut(0, 1, 2);
        CHECKS.due("out of the view", y.keys(0, 0), -1);
        y.cut(0, 1, 9);
        CHECKS.due("nowhere", y.keys(1, 0), -1);
        CHECKS.due("no table", new EarTable().keys(0, 0), -1);
    }

    private static void promise19GreatestTable() {
        StringBuilder text = new StringBuilder("head a*8;");
        for (int k = 0; k < 30; k++) {
            text.append("row ").append(k).append(" 1 2 3 4 5 6 7;");
        }
        EarTable x = Checks.tableOf(text.toString());
        CHECKS.due("the last line and column", x.keys(29, 7), 2);
        CHECKS.due("the last line", x.keys(29, 0), 1);
        // 14 down, and 4 to the side: right alone, or left from the last column.
        CHECKS.due("the middle", x.keys(14, 4), 18);
        CHECKS.due("the middle from below", x.keys(15, 4), 19);
        CHECKS.due("the middle: first", x.first(14, 4), 1);
    }

    /** "of all ways with so few the least number". */
    private static void promise20TheLeastOfAllWays() {
        EarTable x = Checks.tableOf("head a b;row 1 1;row 1 1;");
        CHECKS.due("1 ahead of 5 and 10", x.first(0, 1), 1);
        CHECKS.due("3 ahead of 7 and 9", x.first(1, 0), 3);
        CHECKS.due("1 ahead of 3", x.first(1, 1), 1);
        x.key(3);
        x.key(1);
        CHECKS.due("0 ahead of 4", x.first(1, 0), 0);
        CHECKS.due("2 ahead of 6", x.first(0, 1), 2);
        CHECKS.due("0 ahead of 2", x.first(0, 0), 0);
        EarTable y = Checks.tableOf("row 1 1;row 1 2;row 2 1;");
        CHECKS.due("7 ahead of 8", y.first(2, 0), 7);
        EarTable z = Checks.tableOf("row 1;row 1;row 2;row 2;");
        CHECKS.due("8 alone", z.first(2, 0), 8);
        EarTable w = Checks.tableOf("row 1;row 2;row 1;row 2;");
        CHECKS.due("9 alone", w.first(2, 0), 9);
        EarTable v = Checks.tableOf("head a*2 b*3;row 1 2 3 4 5;");
        CHECKS.due("10 alone", v.first(0, 2), 10);
    }

    /** "NONE if 0 or none." */
    private static void promise20NoneIfNoneOrThere() {
        EarTable x = Checks.tableOf("row 1*2;row 2*2;");
        CHECKS.due("there", x.first(0, 0), -1);
        CHECKS.due("no way", x.first(1, 1), -1);
        CHECKS.due("no line", x.first(2, 0), -1);
        CHECKS.due("no column", x.first(0, 2), -1);
    }
}
