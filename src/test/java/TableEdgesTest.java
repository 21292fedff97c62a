/** The edges that TABLES and promises 1 to 8 name, a test for each sentence. */
public final class TableEdgesTest {
    private static final Checks CHECKS = new Checks("TableEdgesTest");
    private static final int MOST = 1600;

    public static void main(String[] args) {
        promise1NoTableAtAll();
        promise2HighestByteFirstOfAnyNumber();
        promise2NothingComesBeyondTheMost();
        promise3FirstBytesStay();
        promise3NotSoManyOrBelowNone();
        promise3BytesBehindTheEndAreGone();
        promise4TapeIsEmptyThen();
        promise4TextOfTheMostBytes();
        promise4TableOfNoLines();
        promise5AheadOfAnyTable();
        promise5OfTheLatestTable();
        promise5OtherWhat();
        termWordsTenLettersAtMost();
        termNumbersOneToSixDigits();
        termMinusDirectlyAhead();
        termMinusWithNoDigitBehind();
        termBlanksPartThemOrNot();
        termAsLongAsCanBe();
        termNoLetterBehindNumber();
        termEveryByteWhereCellsBegin();
        termEveryByteBehindCells();
        termEveryByteWhereLinesBegin();
        termLineHasCells();
        termHeadRowSumAreNoNames();
        termHeadsFirstThreeAtMost();
        termThirtyLinesAtMost();
        termWidthsOneToEight();
        termColumnsOfTheFirstLine();
        termFirstFaultByPlace();
        termLeastFaultAtOnePlace();
        termPlaceOfTheEnd();
        promise6NoneSuch();
        promise6NoHeadsOrNoLines();
        promise8ShortestAndLongestName();
        CHECKS.finish();
    }

    private static String blanks(int count) {
        return " ".repeat(count);
    }

    /** "No table: no columns, no LINES." */
    private static void promise1NoTableAtAll() {
        EarTable x = new EarTable();
        for (int key = 0; key <= 10; key++) {
            CHECKS.due("new: key " + key, x.key(key), 1);
            CHECKS.dueTold("new: key " + key, x, "E");
        }
        CHECKS.due("new: back", x.back(), -1);
        CHECKS.due("new: mark", x.mark(0), false);
        CHECKS.due("new: go", x.go(0), -1);
        CHECKS.due("new: keys", x.keys(0, 0), -1);
        CHECKS.due("new: first", x.first(0, 0), -1);
        CHECKS.due("new: set", x.set(0, 0, 0), -1);
        CHECKS.due("new: clear", x.clear(0, 0), -1);
        CHECKS.due("new: quarrels", x.quarrels(), 0);
        CHECKS.due("new: quarrel", x.quarrel(0), -1);
        CHECKS.due("new: right", x.right(0), 0);
        CHECKS.due("new: shape", x.shape(0), -1);
        CHECKS.due("new: number", x.number(0, 0), 0);
        CHECKS.due("new: letter", x.letter(0, 0, 0), -1);
    }

    /** "of each number the highest first": the highest bit of a byte is no sign. */
    private static void promise2HighestByteFirstOfAnyNumber() {
        int blank = 0x20202020;
        int[] numbers = {-1, 0x80000000, 0xff203b20, 0x20ff2020, 0x2020ff20, 0x202020ff};
        int[] places = {0, 0, 0, 1, 2, 3};
        for (int at = 0; at < 5; at++) {
            for (int k = 0; k < numbers.length; k++) {
                int[] fed = {blank, blank, blank, blank, blank};
                fed[at] = numbers[k];
                EarTable x = new EarTable();
                CHECKS.due("feed", x.feed(fed[0], fed[1], fed[2], fed[3], fed[4]), 20);
                CHECKS.due("feed: table", x.table(), -1);
                CHECKS.due("feed: no token", x.fault(0), 1);
                CHECKS.due("feed: its place", x.fault(1), 4 * at + places[k]);
            }
        }
    }

    /** "NONE, and nothing comes, if there would be more than 1,600." */
    private static void promise2NothingComesBeyondTheMost() {
        for (int length : new int[] {MOST - 19, MOST - 10, MOST - 1, MOST}) {
            EarTable x = new EarTable();
            Checks.give(x, blanks(MOST));
            x.end(length);
            CHECKS.due("feed at " + length, x.feed(-1, -1, -1, -1, -1), -1);
            CHECKS.due("feed at " + length + ": bytes", x.about(6), length);
            CHECKS.due("feed at " + length + ": blanks alone", x.table(), 0);
        }
        EarTable y = new EarTable();
        Checks.give(y, blanks(MOST));
        y.end(MOST - 20);
        CHECKS.due("feed at 1580", y.feed(-1, -1, -1, -1, -1), MOST);
        y.table();
        CHECKS.due("feed at 1580: they came", y.fault(1), MOST - 20);
    }

    /** "The TAPE has its first n bytes: n." */
    private static void promise3FirstBytesStay() {
        EarTable x = new EarTable();
        Checks.give(x, "row 1;row 2;");
        CHECKS.due("end(12) of 12", x.end(12), 12);
        CHECKS.due("end(6)", x.end(6), 6);
        CHECKS.due("end(6): table", x.table(), 1);
        CHECKS.due("end(6): number", x.number(0, 0), 1);
        Checks.give(x, "row 1;?");
        CHECKS.due("end(0)", x.end(0), 0);
        CHECKS.due("end(0): bytes", x.about(6), 0);
        CHECKS.due("end(0): table", x.table(), 0);
        Checks.give(x, blanks(MOST));
        CHECKS.due("end(1600) of 1600", x.end(MOST), MOST);
    }

    /** "NONE, doing nothing, if it has not so many, or n is below 0." */
    private static void promise3NotSoManyOrBelowNone() {
        EarTable x = new EarTable();
        Checks.give(x, "row 1;");
        int[] wrong = {7, 20, MOST, MOST + 1, Integer.MAX_VALUE, -1, -6, Integer.MIN_VALUE};
        for (int n : wrong) {
            CHECKS.due("end(" + n + ") of 6", x.end(n), -1);
            CHECKS.due("end(" + n + ") of 6: bytes", x.about(6), 6);
        }
        CHECKS.due("end of too many: table", x.table(), 1);
        CHECKS.due("end(1) of none, behind a table", x.end(1), -1);
        Checks.give(x, blanks(MOST));
        CHECKS.due("end(1601) of 1600", x.end(MOST + 1), -1);
    }

    /** What was fed behind the first n bytes touches no TOKEN ahead of it. */
    private static void promise3BytesBehindTheEndAreGone() {
        String[] fed = {"row -5;", "row ab;", "row 15;", "row 1a;", "row 1*2;"};
        String[] held = {"-", "a", "1", "1", "1"};
        for (int k = 0; k < fed.length; k++) {
            EarTable x = new EarTable();
            Checks.give(x, fed[k]);
            x.end(5);
            CHECKS.due("'" + fed[k] + "' cut: table", x.table(), -1);
            CHECKS.due("'" + fed[k] + "' cut: fault", x.fault(0), 2);
            CHECKS.due("'" + fed[k] + "' cut: place", x.fault(1), 5);
            Checks.give(x, ";");
            CHECKS.due("'" + fed[k] + "' cut and closed", x.table(), 1);
            CHECKS.dueCells(fed[k], x, 0, held[k]);
        }
    }

    /** "The TAPE (empty then) is the table"; with a FAULT "all stays". */
    private static void promise4TapeIsEmptyThen() {
        EarTable x = new EarTable();
        Checks.give(x, "row 1;");
        CHECKS.due("table", x.table(), 1);
        CHECKS.due("table: no bytes", x.about(6), 0);
        Checks.give(x, "row 2;row 3;");
        CHECKS.due("the next table does not hold the first", x.table(), 2);
        CHECKS.due("the next table: number", x.number(0, 0), 2);
        Checks.give(x, "row 4");
        CHECKS.due("a fault", x.table(), -1);
        CHECKS.due("a fault: the bytes stay", x.about(6), 5);
        CHECKS.due("a fault: again", x.table(), -1);
        CHECKS.due("a fault: the lines stay", x.about(1), 2);
        CHECKS.due("a fault: the number stays", x.number(0, 0), 2);
    }

    /** "A text of at most 1,600 bytes." */
    private static void promise4TextOfTheMostBytes() {
        for (String text : new String[] {"row 1;", "row a;", "row -;", "row 1*8;"}) {
            EarTable x = new EarTable();
            Checks.give(x, blanks(MOST - text.length()) + text);
            CHECKS.due("'" + text + "' at the end", x.about(6), MOST);
            CHECKS.due("'" + text + "' at the end: table", x.table(), 1);
        }
        for (String text : new String[] {"row", "row 1", "row a", "row -", "row 1*", "row 1*8"}) {
            CHECKS.dueFault(blanks(MOST - text.length()) + text, 2, MOST);
        }
        CHECKS.dueFault(blanks(MOST - 1) + "?", 1, MOST - 1);
        EarTable y = Checks.tableOf("head aaaaaaaaaa*8;".repeat(3)
                + "row 123456 123456 123456 1234 1234 1234 1234 1234;".repeat(30) + blanks(46));
        CHECKS.due("a full text: lines", y.about(1), 30);
        CHECKS.due("a full text: fault", y.fault(0), 0);
    }

    /** "table = {line}": none at all is a table too, and heads alone are one. */
    private static void promise4TableOfNoLines() {
        CHECKS.dueFault("", 0, -1);
        CHECKS.dueFault(" ", 0, -1);
        CHECKS.dueFault("\n", 0, -1);
        CHECKS.dueFault("head a;", 0, -1);
        EarTable x = Checks.tableOf("row 1 2;");
        CHECKS.due("no lines over a table", x.table(), 0);
        CHECKS.due("no lines over a table: columns", x.about(0), 0);
        CHECKS.due("no lines over a table: lines", x.about(1), 0);
        CHECKS.due("no lines over a table: view", x.about(3), 0);
        CHECKS.due("no lines over a table: cell", x.cell(0, 0, 0), Checks.NO_CELL);
        CHECKS.duePlace("no lines over a table", x, -1, -1);
    }

    /** "Of the latest table() ...": there was none yet. */
    private static void promise5AheadOfAnyTable() {
        EarTable x = new EarTable();
        Checks.give(x, "?");
        CHECKS.due("no table() yet: fault(0)", x.fault(0), 0);
        CHECKS.due("no table() yet: fault(1)", x.fault(1), -1);
    }

    /** "Of the latest table() what 0: its FAULT (0), 1: its place (NONE)." */
    private static void promise5OfTheLatestTable() {
        EarTable x = Checks.tableOf("row ?");
        CHECKS.due("first: fault(0)", x.fault(0), 1);
        CHECKS.due("first: fault(1)", x.fault(1), 4);
        x.end(3);
        CHECKS.due("not asked anew: fault(1)", x.fault(1), 4);
        x.table();
        CHECKS.due("second: fault(0)", x.fault(0), 2);
        CHECKS.due("second: fault(1)", x.fault(1), 3);
        x.end(0);
        x.table();
        CHECKS.due("third: fault(0)", x.fault(0), 0);
        CHECKS.due("third: fault(1)", x.fault(1), -1);
        Checks.give(x, ";");
        x.table();
        CHECKS.due("fourth: fault(0)", x.fault(0), 2);
        CHECKS.due("fourth: the place 0 is one", x.fault(1), 0);
    }

    /** "NONE for another what." */
    private static void promise5OtherWhat() {
        EarTable x = Checks.tableOf("row 1 ?");
        for (int what : new int[] {-1, 2, 3, Integer.MIN_VALUE, Integer.MAX_VALUE}) {
            CHECKS.due("fault(" + what + ")", x.fault(what), -1);
        }
    }

    /** "words (a .. z, 10 at most)". */
    private static void termWordsTenLettersAtMost() {
        CHECKS.dueFault("row " + "z".repeat(9) + ";", 0, -1);
        CHECKS.dueFault("row " + "z".repeat(10) + ";", 0, -1);
        CHECKS.dueFault("row " + "z".repeat(11) + ";", 1, 4);
        CHECKS.dueFault("row " + "z".repeat(12) + ";", 1, 4);
        CHECKS.dueFault("row " + "z".repeat(21) + ";", 1, 4);
        CHECKS.dueFault("row 1 " + "z".repeat(1594), 1, 6);
        CHECKS.dueFault("headaaaaaaa a;", 1, 0);
        CHECKS.dueFault("rowabcdefg 1;", 2, 0);
        CHECKS.dueFault("row " + "z".repeat(10) + " z;", 0, -1);
    }

    /** "N (1 to 6 digits ...)". */
    private static void termNumbersOneToSixDigits() {
        CHECKS.dueFault("row 0;", 0, -1);
        CHECKS.dueFault("row 999999;", 0, -1);
        CHECKS.dueFault("row 000000;", 0, -1);
        CHECKS.dueFault("row 1000000;", 1, 4);
        CHECKS.dueFault("row 0000000;", 1, 4);
        CHECKS.dueFault("row -999999;", 0, -1);
        CHECKS.dueFault("row -1000000;", 1, 4);
        CHECKS.dueFault("row 1*0000001;", 1, 6);
        CHECKS.dueFault("row " + "1".repeat(1596), 1, 4);
        CHECKS.dueFault("row 99999999999999999999;", 1, 4);
        String text = "row 000009 -000009 000000 -0 -999999 999999 9;";
        CHECKS.dueCells(text, Checks.tableOf(text), 0, "9 -9 0 0 -999999 999999 9");
    }

    /** "- directly ahead or not": parted by a blank it is a HOLE of its own. */
    private static void termMinusDirectlyAhead() {
        CHECKS.dueCells("-5", Checks.tableOf("row -5;"), 0, "-5");
        CHECKS.dueCells("- 5", Checks.tableOf("row - 5;"), 0, "- 5");
        CHECKS.dueCells("-\\n5", Checks.tableOf("row -\n5;"), 0, "- 5");
        CHECKS.dueCells("5-5", Checks.tableOf("row 5-5;"), 0, "5 -5");
        CHECKS.dueCells("--5", Checks.tableOf("row --5;"), 0, "- -5");
        CHECKS.dueCells("a-5", Checks.tableOf("row a-5;"), 0, "a -5");
    }

    /** "- with no digit directly behind". */
    private static void termMinusWithNoDigitBehind() {
        CHECKS.dueCells("-", Checks.tableOf("row -;"), 0, "-");
        CHECKS.dueCells("--", Checks.tableOf("row --;"), 0, "- -");
        CHECKS.dueCells("-a", Checks.tableOf("row -a;"), 0, "- a");
        CHECKS.dueCells("-*2", Checks.tableOf("row -*2;"), 0, "-");
        CHECKS.dueFault("row -", 2, 5);
        CHECKS.dueFault("row -?;", 1, 5);
        CHECKS.dueFault("row -0;", 0, -1);
        CHECKS.dueFault("row -9;", 0, -1);
    }

    /** "blanks (32, 10) part them or not". */
    private static void termBlanksPartThemOrNot() {
        String[] texts = {"row-a1;", "row - a 1 ;", "\nrow\n-\na\n1\n;\n", "  row  -  a  1  ;  "};
        for (String text : texts) {
            CHECKS.dueFault(text, 0, -1);
            CHECKS.dueCells(text, Checks.tableOf(text), 0, "- a 1");
        }
        CHECKS.dueCells("1 2", Checks.tableOf("row 1 2;"), 0, "1 2");
        CHECKS.dueCells("12", Checks.tableOf("row 12;"), 0, "12");
        CHECKS.dueCells("a b", Checks.tableOf("row a\nb;"), 0, "a b");
        CHECKS.dueCells("a * 2", Checks.tableOf("row a * 2 b;"), 0, "a b");
        CHECKS.dueFault("r ow 1;", 2, 0);
        CHECKS.dueFault("ro\nw 1;", 2, 0);
    }

    /** "each is as long as can be". */
    private static void termAsLongAsCanBe() {
        CHECKS.dueFault("rowa;", 2, 0);
        CHECKS.dueFault("rowrow;", 2, 0);
        CHECKS.dueFault("head a;rowa;", 2, 7);
        CHECKS.dueCells("rowa", Checks.tableOf("row rowa;"), 0, "rowa");
        CHECKS.dueCells("123456", Checks.tableOf("row 123456;"), 0, "123456");
        CHECKS.dueCells("-12", Checks.tableOf("row -12;"), 0, "-12");
        CHECKS.due("*08 is one N", Checks.tableOf("row 1*08;").about(0), 8);
        CHECKS.dueFault("row 1*12;", 3, 6);
    }

    /** "no letter directly behind an N". */
    private static void termNoLetterBehindNumber() {
        CHECKS.dueFault("row 1a;", 1, 4);
        CHECKS.dueFault("row 1z;", 1, 4);
        CHECKS.dueFault("row 123456a;", 1, 4);
        CHECKS.dueFault("row -1a;", 1, 4);
        CHECKS.dueFault("row 1 2 3a;", 1, 8);
        CHECKS.dueFault("row 1*2a;", 1, 6);
        CHECKS.dueFault("row 1 a;", 0, -1);
        CHECKS.dueFault("row 1\na;", 0, -1);
        CHECKS.dueFault("row 1-a;", 0, -1);
        CHECKS.dueFault("row a1;", 0, -1);
        CHECKS.dueFault("row 1*2 a;", 0, -1);
    }

    /** "1 no TOKEN; 2 one that can't stand there", for every byte there is. */
    private static void termEveryByteWhereCellsBegin() {
        for (int code = 0; code < 256; code++) {
            char sign = (char) code;
            boolean isCell = sign >= 'a' && sign <= 'z' || sign >= '0' && sign <= '9' || sign == '-';
            String text = "row " + sign + ";";
            if (isCell) {
                CHECKS.dueFault(text, 0, -1);
            } else if (sign == ' ' || sign == '\n') {
                CHECKS.dueFault(text, 2, 5);
            } else {
                CHECKS.dueFault(text, sign == ';' || sign == '*' ? 2 : 1, 4);
            }
        }
    }

    private static void termEveryByteBehindCells() {
        for (int code = 0; code < 256; code++) {
            char sign = (char) code;
            String text = "row 1" + sign + ";";
            if (sign >= 'a' && sign <= 'z') {
                CHECKS.dueFault(text, 1, 4);
            } else if (sign >= '0' && sign <= '9' || sign == '-' || sign == ' ' || sign == '\n') {
                CHECKS.dueFault(text, 0, -1);
            } else if (sign == ';' || sign == '*') {
                CHECKS.dueFault(text, 2, 6);
            } else {
                CHECKS.dueFault(text, 1, 5);
            }
        }
    }

    private static void termEveryByteWhereLinesBegin() {
        for (int code = 0; code < 256; code++) {
            char sign = (char) code;
            boolean isToken = sign >= 'a' && sign <= 'z' || sign >= '0' && sign <= '9'
                    || sign == '-' || sign == ';' || sign == '*';
            boolean isBlank = sign == ' ' || sign == '\n';
            CHECKS.dueFault("row 1;" + sign, isBlank ? 0 : isToken ? 2 : 1, isBlank ? -1 : 6);
        }
    }

    /** "line = (head | row | sum) cell {cell} ;." */
    private static void termLineHasCells() {
        CHECKS.dueFault("head;", 2, 4);
        CHECKS.dueFault("row ;", 2, 4);
        CHECKS.dueFault("sum\n;", 2, 4);
        CHECKS.dueFault("row 1;;", 2, 6);
        CHECKS.dueFault("row 1 row 2;", 2, 6);
        CHECKS.dueFault("1;", 2, 0);
        CHECKS.dueFault("-;", 2, 0);
        CHECKS.dueFault("row *1;", 2, 4);
        CHECKS.dueFault("row 1*1*1;", 2, 7);
        CHECKS.dueFault("row 1**2;", 2, 6);
        CHECKS.dueFault("row 1; * ?", 2, 7);
        CHECKS.dueFault("row 1*a;", 2, 6);
        CHECKS.dueFault("row 1*row;", 2, 6);
        CHECKS.dueFault("row 1*-;", 2, 6);
        CHECKS.dueFault("row 1*;", 2, 6);
        CHECKS.dueFault("row 1*?;", 1, 6);
    }

    /** "head row sum are no NAMES." */
    private static void termHeadRowSumAreNoNames() {
        for (String word : new String[] {"head", "row", "sum"}) {
            CHECKS.dueFault("row " + word + ";", 2, 4);
            CHECKS.dueFault("row 1 " + word + ";", 2, 6);
            CHECKS.dueFault("head " + word + ";", 2, 5);
        }
        String near = "row hea heads he ro rows su sums s;";
        CHECKS.dueCells(near, Checks.tableOf(near), 0, "hea heads he ro rows su sums s");
    }

    /** "Lines of head come first, 3 at most"; "a 4th head, a head behind a LINE: at its first word". */
    private static void termHeadsFirstThreeAtMost() {
        CHECKS.dueFault("head a;".repeat(3), 0, -1);
        CHECKS.dueFault("head a;".repeat(3) + " head a;", 2, 22);
        CHECKS.dueFault("head a;".repeat(3) + "head ?", 2, 21);
        CHECKS.dueFault("row 1;head a;", 2, 6);
        CHECKS.dueFault("sum 1;head ?;", 2, 6);
        CHECKS.dueFault("head a;row 1;head a;", 2, 13);
        CHECKS.dueFault("head a;".repeat(3) + "row 1;\nhead a;", 2, 28);
    }

    /** "rows and sums, LINES, ... 30 at most"; "a 31st LINE: at its first word". */
    private static void termThirtyLinesAtMost() {
        String thirty = "row 1;sum 1;".repeat(15);
        CHECKS.dueFault(thirty, 0, -1);
        CHECKS.dueFault(thirty + "row 1;", 2, 180);
        CHECKS.dueFault(thirty + " sum 1;", 2, 181);
        CHECKS.dueFault(thirty + "row ?;", 2, 180);
        CHECKS.dueFault(thirty + "rows 1;", 2, 180);
        CHECKS.dueFault(thirty + ";", 2, 180);
        CHECKS.dueFault(thirty + "\n ", 0, -1);
        CHECKS.dueFault("head a;".repeat(3) + thirty, 0, -1);
        CHECKS.dueFault("head a;".repeat(3) + thirty + "row 1;", 2, 201);
        CHECKS.dueFault("head a;".repeat(3) + thirty + "head a;", 2, 201);
    }

    /** "as many as told behind * (1 .. 8)"; "3 an N behind * that can't be". */
    private static void termWidthsOneToEight() {
        for (int width = 1; width <= 8; width++) {
            EarTable x = Checks.tableOf("row a*" + width + ";");
            CHECKS.due("*" + width, x.about(0), width);
            CHECKS.due("*" + width + ": over", x.cell(0, width - 1, 2), width);
            CHECKS.due("*" + width + ": first column", x.cell(0, width - 1, 1), 0);
        }
        for (String wrong : new String[] {"0", "-0", "9", "10", "-1", "-8", "999999", "-999999"}) {
            CHECKS.dueFault("row a*" + wrong + ";", 3, 6);
            CHECKS.dueFault("row a * " + wrong + " ?", 3, 8);
        }
        CHECKS.dueFault("row a * 000008 ;", 0, -1);
        CHECKS.dueFault("row 1 2;row 1*9;", 3, 14);
    }

    /** "4 a cell by which a line is over more columns than the first (than 8 in the first)"; "5". */
    private static void termColumnsOfTheFirstLine() {
        CHECKS.dueFault("row a*8;", 0, -1);
        CHECKS.dueFault("row a*8 b;", 4, 8);
        CHECKS.dueFault("row a*4 b*4;", 0, -1);
        CHECKS.dueFault("row a*4 b*5;", 4, 8);
        CHECKS.dueFault("row a*7 b*1;", 0, -1);
        CHECKS.dueFault("row a*7 b*2;", 4, 8);
        CHECKS.dueFault("row a b c d e f g h i;", 4, 20);
        CHECKS.dueFault("row a;row a*2;", 4, 10);
        CHECKS.dueFault("row a;row a b;", 4, 12);
        CHECKS.dueFault("row a b;row a*3;", 4, 12);
        CHECKS.dueFault("row a*2;row a b;row a -*2;", 4, 22);
        CHECKS.dueFault("head a;row a b;", 4, 13);
        CHECKS.dueFault("head a;head a*2;", 4, 12);
        CHECKS.dueFault("row a*8;row a*8;", 0, -1);
        CHECKS.dueFault("row a*8;row a*7;", 5, 15);
        CHECKS.dueFault("row a*8;row a*7 b*2;", 4, 16);
        CHECKS.dueFault("row a b;row a;", 5, 13);
        CHECKS.dueFault("row a b;row a \n;", 5, 15);
        CHECKS.dueFault("head a b;head a;", 5, 15);
        CHECKS.dueFault("head a b;row a b;sum a;", 5, 22);
    }

    /** "FAULTS, the first by its place". */
    private static void termFirstFaultByPlace() {
        CHECKS.dueFault("row ? *;", 1, 4);
        CHECKS.dueFault("row * ?;", 2, 4);
        CHECKS.dueFault("row 1*9 ?;", 3, 6);
        CHECKS.dueFault("row 1;row 1 2 ?;", 4, 12);
        CHECKS.dueFault("row 1;row 1 2 *;", 4, 12);
        CHECKS.dueFault("row 1;row 1 2", 4, 12);
        // A CELL that has no room is told at its first TOKEN, ahead of what is behind its *.
        CHECKS.dueFault("row 1;row 1 2*0;", 4, 12);
        CHECKS.dueFault("row 1;row 1 2*?;", 4, 12);
        CHECKS.dueFault("row 1 2;row 1;?", 5, 13);
        CHECKS.dueFault("row 1 2;row 1;row 1 2 3;", 5, 13);
        CHECKS.dueFault("row 1 2;row 1 2 3;row 1;", 4, 16);
        // Short of its columns, but what stands there is found ahead of the ; that would tell it.
        CHECKS.dueFault("row 1 2;row 1 ?;", 1, 14);
        CHECKS.dueFault("row 1 2;row 1 row;", 2, 14);
        CHECKS.dueFault("row 1 2;row 1", 2, 13);
    }

    /** "at one place the least": a ; that can't stand there also ends a line over fewer. */
    private static void termLeastFaultAtOnePlace() {
        CHECKS.dueFault("row 1 2;row;", 2, 11);
        CHECKS.dueFault("head a*8;sum ;", 2, 13);
        CHECKS.dueFault("row 1;?", 1, 6);
        CHECKS.dueFault("row 1;".repeat(30) + "?", 1, 180);
    }

    /** "the end: the text's length". */
    private static void termPlaceOfTheEnd() {
        CHECKS.dueFault("row", 2, 3);
        CHECKS.dueFault("row \n ", 2, 6);
        CHECKS.dueFault("row 1", 2, 5);
        CHECKS.dueFault("row 1 ", 2, 6);
        CHECKS.dueFault("row 1 *", 2, 7);
        CHECKS.dueFault("row 1 * 2  ", 2, 11);
        CHECKS.dueFault("row 1 2;row 1   ", 2, 16);
        CHECKS.dueFault("head", 2, 4);
    }

    /** "-1000000 if there is none such": beyond each end of LINES, levels, columns and what. */
    private static void promise6NoneSuch() {
        EarTable x = Checks.tableOf("head a b;head c d;row 1 2;row 3 -;");
        int[] lines = {2, 3, 30, -3, -4, Integer.MAX_VALUE, Integer.MIN_VALUE};
        int[] others = {2, 8, -1, -8, Integer.MAX_VALUE, Integer.MIN_VALUE};
        for (int line : lines) {
            CHECKS.due("cell: line " + line, x.cell(line, 0, 0), Checks.NO_CELL);
        }
        for (int column : others) {
            CHECKS.due("cell: column " + column, x.cell(0, column, 0), Checks.NO_CELL);
            CHECKS.due("cell: head's column " + column, x.cell(-1, column, 0), Checks.NO_CELL);
        }
        for (int what : new int[] {4, 5, -1, Integer.MAX_VALUE, Integer.MIN_VALUE}) {
            CHECKS.due("cell: what " + what, x.cell(0, 0, what), Checks.NO_CELL);
        }
        CHECKS.due("cell: last line and column", x.cell(1, 1, 0), 0);
        CHECKS.due("cell: last level", x.letter(-2, 1, 0), 'd');
    }

    private static void promise6NoHeadsOrNoLines() {
        CHECKS.due("no heads", Checks.tableOf("row 1;").cell(-1, 0, 0), Checks.NO_CELL);
        EarTable x = Checks.tableOf("head a;head b;head 3;");
        CHECKS.due("no lines", x.cell(0, 0, 0), Checks.NO_CELL);
        CHECKS.due("no lines: level 0", x.letter(-1, 0, 0), 'a');
        CHECKS.due("no lines: level 2", x.number(-3, 0), 3);
        CHECKS.due("no lines: level 3", x.cell(-4, 0, 0), Checks.NO_CELL);
    }

    /** "Letter k of its NAME; NONE if there is none such." */
    private static void promise8ShortestAndLongestName() {
        EarTable x = Checks.tableOf("row a zzzzzzzzzz;");
        CHECKS.due("letters of the shortest", x.cell(0, 0, 3), 1);
        CHECKS.due("letter 0 of one", x.letter(0, 0, 0), 'a');
        CHECKS.due("letter 1 of one", x.letter(0, 0, 1), -1);
        CHECKS.due("letters of the longest", x.cell(0, 1, 3), 10);
        CHECKS.due("letter 9 of ten", x.letter(0, 1, 9), 'z');
        CHECKS.due("letter 10 of ten", x.letter(0, 1, 10), -1);
        CHECKS.due("letter -1", x.letter(0, 1, -1), -1);
        CHECKS.due("letter min", x.letter(0, 1, Integer.MIN_VALUE), -1);
    }
}
