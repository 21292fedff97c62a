/** Promises 1 to 8: the TAPE, the table, its FAULTS and its CELLS. */
public final class TableTest {
    private static final Checks CHECKS = new Checks("TableTest");

    public static void main(String[] args) {
        promise1NewObject();
        promise2Feed();
        promise3End();
        promise4Table();
        promise4TableStaysOnFault();
        promise5NoFault();
        promise5EachFault();
        promise6Cell();
        promise6LinesAndLevelsAtMost();
        promise7Number();
        promise8Letter();
        CHECKS.finish();
    }

    private static void promise1NewObject() {
        EarTable x = new EarTable();
        for (int what = 0; what <= 7; what++) {
            CHECKS.due("new: about(" + what + ")", x.about(what), 0);
        }
        CHECKS.due("new: cell", x.cell(0, 0, 0), Checks.NO_CELL);
        CHECKS.due("new: head", x.cell(-1, 0, 0), Checks.NO_CELL);
        CHECKS.duePlace("new", x, -1, -1);
        CHECKS.due("new: lineAt(0)", x.lineAt(0), -1);
        CHECKS.due("new: cut", x.cut(0, 0, 0), -1);
        CHECKS.due("new: sort", x.sort(0, true), -1);
        CHECKS.due("new: whole", x.whole(), 0);
        CHECKS.due("new: undo", x.undo(), false);
        CHECKS.due("new: greatest", x.greatest(0), -1);
        CHECKS.due("new: compare", x.compare(0, 0, 1), -1);
        CHECKS.due("new: fault(0)", x.fault(0), 0);
        CHECKS.due("new: fault(1)", x.fault(1), -1);
    }

    private static void promise2Feed() {
        EarTable x = new EarTable();
        // "row ", "abcd", "efgh", "*8 ;" and blanks: the highest byte comes first.
        int blanks = 0x20202020;
        CHECKS.due("feed", x.feed(0x726f7720, 0x61626364, 0x65666768, 0x2a38203b, blanks), 20);
        CHECKS.due("feed: table", x.table(), 1);
        CHECKS.due("feed: first letter", x.letter(0, 0, 0), 'a');
        CHECKS.due("feed: last letter", x.letter(0, 0, 7), 'h');
        for (int k = 1; k <= 80; k++) {
            CHECKS.due("feed " + k, x.feed(blanks, blanks, blanks, blanks, blanks), 20 * k);
        }
        CHECKS.due("feed beyond 1600", x.feed(0, 0, 0, 0, 0), -1);
        CHECKS.due("feed beyond 1600: bytes", x.about(6), 1600);
        CHECKS.due("feed beyond 1600: nothing came", x.table(), 0);

        EarTable y = new EarTable();
        for (int k = 1; k <= 80; k++) {
            y.feed(0, 0, 0, 0, 0);
        }
        y.end(1581);
        CHECKS.due("feed at 1581", y.feed(0, 0, 0, 0, 0), -1);
        CHECKS.due("feed at 1581: bytes", y.about(6), 1581);
        y.end(1580);
        CHECKS.due("feed at 1580", y.feed(0, 0, 0, 0, 0), 1600);
    }

    private static void promise3End() {
        EarTable x = new EarTable();
        CHECKS.due("end(0) of none", x.end(0), 0);
        CHECKS.due("end(1) of none", x.end(1), -1);
        Checks.give(x, "row 1;");
        CHECKS.due("end(7) of 6", x.end(7), -1);
        CHECKS.due("end(-1)", x.end(-1), -1);
        CHECKS.due("end(min)", x.end(Integer.MIN_VALUE), -1);
        CHECKS.due("end: bytes stay", x.about(6), 6);
        CHECKS.due("end(6)", x.end(6), 6);
        CHECKS.due("end(5)", x.end(5), 5);
        CHECKS.due("end: bytes", x.about(6), 5);
        Checks.give(x, "2;row 3;");
        CHECKS.due("end: what is fed next comes behind", x.table(), 2);
        CHECKS.due("end: joined number", x.number(0, 0), 12);
    }

    private static void promise4Table() {
        EarTable x = new EarTable();
        CHECKS.due("table of nothing", x.table(), 0);
        Checks.give(x, "head a b;");
        CHECKS.due("table of heads alone", x.table(), 0);
        CHECKS.due("heads alone: columns", x.about(0), 2);
        CHECKS.due("heads alone: levels", x.about(2), 1);
        CHECKS.duePlace("heads alone", x, -1, -1);
        CHECKS.due("heads alone: cut", x.cut(1, 0, 0), 0);
        Checks.give(x, "row 1 2;row 3 4;sum 4 6;");
        CHECKS.due("table", x.table(), 3);
        CHECKS.due("table: the tape is empty", x.about(6), 0);
        x.key(7);
        x.key(1);
        x.mark(0);
        x.set(0, 0, 9);
        x.cut(0, 2, 3);
        x.key(3);
        Checks.give(x, "row 1 2 3;row 4 5 6;");
        CHECKS.due("table anew", x.table(), 2);
        CHECKS.duePlace("table anew", x, 0, 0);
        CHECKS.dueView("table anew", x, "0 1");
        CHECKS.due("table anew: marks", x.go(0), -1);
        CHECKS.due("table anew: changes", x.undo(), false);
        CHECKS.due("table anew: moves", x.back(), -1);
        CHECKS.due("table anew: told", x.about(7), 0);
        CHECKS.due("table anew: about(4)", x.about(4), 0);
        x.key(3);
        CHECKS.dueTold("table anew: all is told", x, "L1 C@0");
        Checks.give(x, "row 1; row 2;");
        x.table();
        CHECKS.duePlace("table anew, from its second line", x, 0, 0);
        CHECKS.due("table of nothing again", x.table(), 0);
        CHECKS.due("table of nothing again: columns", x.about(0), 0);
        Checks.give(x, "row1-2*2-;\nsum-a*2-\n;");
        CHECKS.due("table without blanks", x.table(), 2);
        CHECKS.due("table without blanks: columns", x.about(0), 4);
        CHECKS.due("table without blanks: -2", x.number(0, 2), -2);
        CHECKS.due("table without blanks: -", x.cell(0, 3, 0), 0);
        Checks.give(x, "row--5-;");
        CHECKS.due("dashes", x.table(), 1);
        CHECKS.due("dashes: columns", x.about(0), 3);
        CHECKS.due("dashes: -5", x.number(0, 1), -5);
    }

    private static void promise4TableStaysOnFault() {
        EarTable x = Checks.tableOf("row 1 2;row 3 4;sum 4 6;");
        x.key(3);
        x.mark(0);
        x.key(1);
        x.set(0, 0, 9);
        Checks.give(x, "row 1 2 3; row 4;");
        CHECKS.due("fault", x.table(), -1);
        CHECKS.due("fault: columns", x.about(0), 2);
        CHECKS.due("fault: lines", x.about(1), 3);
        CHECKS.due("fault: changes", x.about(4), 1);
        CHECKS.due("fault: moves", x.about(5), 2);
        CHECKS.due("fault: tape", x.about(6), 17);
        CHECKS.dueTold("fault: told", x, "C@1");
        CHECKS.due("fault: cells", x.number(0, 0), 9);
        CHECKS.duePlace("fault", x, 1, 1);
        CHECKS.due("fault: undo", x.undo(), true);
        CHECKS.due("fault: undone", x.number(0, 0), 1);
        CHECKS.due("fault: mark", x.go(0), 1);
        x.end(10);
        CHECKS.due("fault: the tape can be mended", x.table(), 1);
    }

    private static void promise5NoFault() {
        EarTable x = Checks.tableOf("row 1 2");
        CHECKS.due("fault(0)", x.fault(0), 2);
        CHECKS.due("fault(1)", x.fault(1), 7);
        CHECKS.due("fault(2)", x.fault(2), -1);
        CHECKS.due("fault(-1)", x.fault(-1), -1);
        Checks.give(x, ";");
        CHECKS.due("mended", x.table(), 1);
        CHECKS.due("mended: fault(0)", x.fault(0), 0);
        CHECKS.due("mended: fault(1)", x.fault(1), -1);
    }

    private static void promise5EachFault() {
        String good = "head name fruit*2;row a 1 2;row b 3 -;sum - 4 2;";
        CHECKS.dueFault(good, 0, -1);
        CHECKS.dueFault(good.replace("b", "B"), 1, 32);
        CHECKS.dueFault(good.replace("3 -", "3 - *"), 2, 39);
        CHECKS.dueFault(good.replace("*2", "*20"), 3, 16);
        CHECKS.dueFault(good.replace("*2", "*1"), 4, 26);
        CHECKS.dueFault(good.replace("*2", "*3"), 5, 27);
    }

    private static void promise6Cell() {
        EarTable x = Checks.tableOf("head - fruit*2 12; head a*4; row x 3*2 -; sum total*3 -7;");
        CHECKS.due("cell: hole in a head", x.cell(-1, 0, 0), 0);
        CHECKS.due("cell: name in a head", x.cell(-1, 2, 0), 2);
        CHECKS.due("cell: number in a head", x.cell(-1, 3, 0), 1);
        CHECKS.due("cell: first column", x.cell(-1, 2, 1), 1);
        CHECKS.due("cell: over", x.cell(-1, 2, 2), 2);
        CHECKS.due("cell: letters", x.cell(-1, 2, 3), 5);
        CHECKS.due("cell: letters of a number", x.cell(-1, 3, 3), 0);
        CHECKS.due("cell: letters of a hole", x.cell(-1, 0, 3), 0);
        CHECKS.due("cell: level 1", x.cell(-2, 3, 2), 4);
        CHECKS.due("cell: level 2", x.cell(-3, 0, 0), Checks.NO_CELL);
        CHECKS.due("cell: wide number", x.cell(0, 2, 0), 1);
        CHECKS.due("cell: behind a wide one", x.cell(0, 3, 1), 3);
        CHECKS.due("cell: behind a wide one, over", x.cell(0, 3, 2), 1);
        CHECKS.due("cell: sum", x.cell(1, 2, 3), 5);
        CHECKS.due("cell: line 2", x.cell(2, 0, 0), Checks.NO_CELL);
        CHECKS.due("cell: line max", x.cell(Integer.MAX_VALUE, 0, 0), Checks.NO_CELL);
        CHECKS.due("cell: line min", x.cell(Integer.MIN_VALUE, 0, 0), Checks.NO_CELL);
        CHECKS.due("cell: column 4", x.cell(0, 4, 0), Checks.NO_CELL);
        CHECKS.due("cell: column -1", x.cell(0, -1, 0), Checks.NO_CELL);
        CHECKS.due("cell: column max", x.cell(0, Integer.MAX_VALUE, 0), Checks.NO_CELL);
        CHECKS.due("cell: what 4", x.cell(0, 0, 4), Checks.NO_CELL);
        CHECKS.due("cell: what -1", x.cell(0, 0, -1), Checks.NO_CELL);
        x.cut(3, 2, 100);
        CHECKS.due("cell: a line that is not in the view", x.cell(1, 0, 3), 5);
    }

    private static void promise6LinesAndLevelsAtMost() {
        String heads = "head a*8;head b*4 c*4;head 1 2 3 4 5 6 7 8;";
        EarTable x = Checks.tableOf(heads + "row 1 2 3 4 5 6 7 8;".repeat(29) + "sum 9*8;");
        CHECKS.due("most: lines", x.about(1), 30);
        CHECKS.due("most: levels", x.about(2), 3);
        CHECKS.due("most: columns", x.about(0), 8);
        CHECKS.due("most: level 2", x.number(-3, 7), 8);
        CHECKS.due("most: level 3", x.cell(-4, 0, 0), Checks.NO_CELL);
        CHECKS.due("most: last line", x.number(29, 7), 9);
        CHECKS.due("most: line 30", x.cell(30, 0, 0), Checks.NO_CELL);
        CHECKS.due("most: column 8", x.cell(0, 8, 0), Checks.NO_CELL);
        CHECKS.due("most: keys", x.keys(29, 7), 2);
    }

    private static void promise7Number() {
        EarTable x = Checks.tableOf("head 12 a;row -000012 999999;row -999999 -0;row a -;");
        CHECKS.due("number: head", x.number(-1, 0), 12);
        CHECKS.due("number: below 0", x.number(0, 0), -12);
        CHECKS.due("number: greatest", x.number(0, 1), 999999);
        CHECKS.due("number: least", x.number(1, 0), -999999);
        CHECKS.due("number: -0", x.number(1, 1), 0);
        CHECKS.due("number: -0 is one", x.cell(1, 1, 0), 1);
        CHECKS.due("number: name", x.number(2, 0), 0);
        CHECKS.due("number: hole", x.number(2, 1), 0);
        CHECKS.due("number: no line", x.number(3, 0), 0);
        CHECKS.due("number: no level", x.number(-2, 0), 0);
        CHECKS.due("number: no column", x.number(0, 2), 0);
        CHECKS.due("number: column below 0", x.number(0, -1), 0);
        CHECKS.due("number: extremes", x.number(Integer.MIN_VALUE, Integer.MAX_VALUE), 0);
    }

    private static void promise8Letter() {
        EarTable x = Checks.tableOf("head zebra*2;row azazazazaz 5;row - a;");
        CHECKS.due("letter: head", x.letter(-1, 1, 0), 'z');
        CHECKS.due("letter: head's last", x.letter(-1, 0, 4), 'a');
        CHECKS.due("letter: behind it", x.letter(-1, 0, 5), -1);
        for (int k = 0; k < 10; k++) {
            CHECKS.due("letter " + k, x.letter(0, 0, k), k % 2 == 0 ? 'a' : 'z');
        }
        CHECKS.due("letter 10", x.letter(0, 0, 10), -1);
        CHECKS.due("letter -1", x.letter(0, 0, -1), -1);
        CHECKS.due("letter max", x.letter(0, 0, Integer.MAX_VALUE), -1);
        CHECKS.due("letter of a number", x.letter(0, 1, 0), -1);
        CHECKS.due("letter of a hole", x.letter(1, 0, 0), -1);
        CHECKS.due("letter of no line", x.letter(2, 0, 0), -1);
        CHECKS.due("letter of no column", x.letter(0, 2, 0), -1);
        x.set(0, 0, 3);
        CHECKS.due("letter of what was a name", x.letter(0, 0, 0), -1);
        x.undo();
        CHECKS.due("letter of a name again", x.letter(0, 0, 1), 'z');
    }
}
