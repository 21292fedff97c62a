/** Promises 19 and 20: the fewest keys to a LINE and column, and the first of them. */
public final class WaysTest {
    private static final Checks CHECKS = new Checks("WaysTest");

    public static void main(String[] args) {
        promise19Keys();
        promise19NoWay();
        promise20First();
        promises19And20EveryWayIsTrue();
        CHECKS.finish();
    }

    private static void promise19Keys() {
        EarTable x = Checks.tableOf("row 1 2 3 4 5;".repeat(10));
        CHECKS.due("here", x.keys(0, 0), 0);
        CHECKS.due("right", x.keys(0, 1), 1);
        CHECKS.due("last column", x.keys(0, 4), 1);
        CHECKS.due("one ahead of it", x.keys(0, 3), 2);
        CHECKS.due("last line and column", x.keys(9, 4), 2);
        CHECKS.due("the middle", x.keys(5, 2), 7);
        x.key(7);
        CHECKS.due("from the end", x.keys(5, 2), 6);
        CHECKS.due("the place stays", x.place(0), 9);
        CHECKS.due("nothing is told", x.about(7), 2);
        CHECKS.due("no move", x.about(5), 1);
        EarTable y = Checks.tableOf("row 1;".repeat(10) + "row 2;".repeat(10) + "row 1; row 2;");
        CHECKS.due("something else", y.keys(10, 0), 1);
        CHECKS.due("something else twice", y.keys(20, 0), 2);
        CHECKS.due("one up from the last", y.keys(19, 0), 3);
        EarTable z = Checks.tableOf("head a b*4 c*3; row 1 2 3 4 5 6 7 8;");
        CHECKS.due("two heads on", z.keys(0, 5), 2);
        CHECKS.due("the middle by heads", z.keys(0, 4), 3);
    }

    private static void promise19NoWay() {
        EarTable x = Checks.tableOf("row 1*2 3; row 4*2 5; sum 6*3;");
        CHECKS.due("inside a wide cell", x.keys(1, 1), -1);
        CHECKS.due("behind a wide cell", x.keys(1, 2), 2);
        CHECKS.due("by another line", x.keys(2, 2), 2);
        CHECKS.due("no line", x.keys(3, 0), -1);
        CHECKS.due("a head", x.keys(-1, 0), -1);
        CHECKS.due("no column", x.keys(0, 3), -1);
        CHECKS.due("column below 0", x.keys(0, -1), -1);
        CHECKS.due("extremes", x.keys(Integer.MAX_VALUE, Integer.MIN_VALUE), -1);
        x.cut(2, 2, 3);
        CHECKS.due("not in the view", x.keys(0, 0), -1);
        CHECKS.due("not in the view: a sum", x.keys(2, 0), -1);
        CHECKS.due("in the view", x.keys(1, 2), 1);
        x.cut(2, 0, 0);
        CHECKS.due("nowhere", x.keys(1, 2), -1);
        CHECKS.due("nowhere: first", x.first(1, 2), -1);
    }

    private static void promise20First() {
        EarTable x = Checks.tableOf("row 1 2 3;row 1 2 3;row 1 2 3;");
        CHECKS.due("here", x.first(0, 0), -1);
        CHECKS.due("right ahead of the rest", x.first(1, 1), 1);
        CHECKS.due("down ahead of 9", x.first(1, 0), 3);
        CHECKS.due("last column", x.first(0, 2), 5);
        CHECKS.due("5 ahead of 7", x.first(2, 2), 5);
        CHECKS.due("last line", x.first(2, 0), 7);
        CHECKS.due("no line", x.first(3, 0), -1);
        CHECKS.due("no column", x.first(0, 3), -1);
        CHECKS.due("a head", x.first(-1, 0), -1);
        x.key(7);
        x.key(5);
        CHECKS.due("up ahead of 6", x.first(1, 2), 2);
        CHECKS.due("left ahead of 4", x.first(2, 1), 0);
        CHECKS.due("first column", x.first(2, 0), 4);
        EarTable y = Checks.tableOf("row 1*2 3; row 4*2 5;");
        CHECKS.due("no way", y.first(1, 1), -1);
    }

    /** Walking by first() gets there in keys() keys, each one nearer. */
    private static void promises19And20EveryWayIsTrue() {
        String text = "head a*2 b*3 c;row 1 2*2 3 4 5;row 1*3 7 8*2;sum 1 2 3 - 5 6;row 1*6;"
                + "row a 2 2 3 b*2;row a*2 1 -*2 9;sum 1*2 3*2 4*2;row a a a a a a;";
        for (int line = 0; line < 8; line++) {
            for (int column = 0; column < 6; column++) {
                EarTable x = Checks.tableOf(text);
                int count = x.keys(line, column);
                for (int k = count; k > 0; k--) {
                    CHECKS.due("keys left", x.keys(line, column), k);
                    x.key(x.first(line, column));
                }
                if (count != -1) {
                    CHECKS.duePlace("the way to " + line + ", " + column, x, line, column);
                }
            }
        }
    }
}
