/** Promises 9 to 13: the VIEW and the PLACE in it. */
public final class ViewTest {
    private static final Checks CHECKS = new Checks("ViewTest");
    private static final String FRUIT = "head name big*2; row a 5 3; row b -2 3; sum - 3 6;"
            + "row c 5*2; row d x -; row e - 9; sum - 5 9;";

    public static void main(String[] args) {
        promise9Cut();
        promise9WrongInputs();
        promise10Sort();
        promise10LikeOnesStayInOrder();
        promise10WrongInputs();
        promise11Whole();
        promise12LineAt();
        promise13Place();
        promise13PlaceWhenTheViewChanges();
        promise13Nowhere();
        CHECKS.finish();
    }

    private static void promise9Cut() {
        EarTable x = Checks.tableOf(FRUIT);
        CHECKS.due("cut below", x.cut(1, 0, 5), 1);
        CHECKS.dueView("cut below", x, "1");
        x.whole();
        CHECKS.due("cut the same, a wide cell too", x.cut(1, 1, 5), 2);
        CHECKS.dueView("cut the same", x, "0 3");
        x.whole();
        CHECKS.due("cut above", x.cut(2, 2, 4), 2);
        CHECKS.dueView("cut above", x, "3 5");
        CHECKS.due("cut what is cut", x.cut(1, 1, 5), 1);
        CHECKS.dueView("cut what is cut", x, "3");
        CHECKS.due("cut all", x.cut(0, 2, -1000000), 0);
        CHECKS.due("cut all: lines", x.about(3), 0);
        x.whole();
        CHECKS.due("cut at the least", x.cut(1, 0, Integer.MIN_VALUE), 0);
        x.whole();
        CHECKS.due("cut at the greatest", x.cut(1, 0, Integer.MAX_VALUE), 3);
        x.sort(1, false);
        x.cut(1, 2, -10);
        CHECKS.dueView("cut keeps the order", x, "0 3 1");
    }

    private static void promise9WrongInputs() {
        EarTable x = Checks.tableOf(FRUIT);
        x.key(3);
        CHECKS.due("cut: column -1", x.cut(-1, 0, 5), -1);
        CHECKS.due("cut: column 3", x.cut(3, 0, 5), -1);
        CHECKS.due("cut: what -1", x.cut(0, -1, 5), -1);
        CHECKS.due("cut: what 3", x.cut(0, 3, 5), -1);
        CHECKS.due("cut: does nothing", x.about(3), 7);
        CHECKS.due("cut: moves stay", x.about(5), 1);
    }

    private static void promise10Sort() {
        EarTable x = Checks.tableOf("row b; row -; row 10; row ab; row 9; sum 5; row a; row -3;"
                + "row abc; row -;");
        CHECKS.due("sort up", x.sort(0, true), 9);
        CHECKS.dueView("sort up", x, "7 4 2 6 3 8 0 1 9");
        CHECKS.due("sort down", x.sort(0, false), 9);
        CHECKS.dueView("sort down", x, "0 8 3 6 2 4 7 1 9");
        EarTable y = Checks.tableOf(FRUIT);
        y.sort(2, true);
        CHECKS.dueView("sort: wide cells", y, "0 1 3 5 4");
        y.whole();
        y.cut(2, 2, 4);
        y.sort(0, false);
        CHECKS.dueView("sort what is cut", y, "5 3");
    }

    private static void promise10LikeOnesStayInOrder() {
        EarTable x = Checks.tableOf("row 1 b; row 2 a; row 1 a; row 2 b; row - a; row - b;");
        x.sort(0, true);
        CHECKS.dueView("sort up", x, "0 2 1 3 4 5");
        x.sort(0, false);
        CHECKS.dueView("sort down", x, "1 3 0 2 4 5");
        x.sort(1, false);
        CHECKS.dueView("sort by another, like ones as they were", x, "3 0 5 1 2 4");
        x.sort(0, true);
        CHECKS.dueView("sort by the first again", x, "0 2 3 1 5 4");
    }

    private static void promise10WrongInputs() {
        EarTable x = Checks.tableOf(FRUIT);
        x.key(3);
        CHECKS.due("sort: column -1", x.sort(-1, true), -1);
        CHECKS.due("sort: column 3", x.sort(3, false), -1);
        CHECKS.due("sort: does nothing", x.about(3), 7);
        CHECKS.due("sort: moves stay", x.about(5), 1);
    }

    private static void promise11Whole() {
        EarTable x = Checks.tableOf(FRUIT);
        x.sort(1, false);
        x.cut(1, 1, 5);
        CHECKS.due("whole", x.whole(), 7);
        CHECKS.dueView("whole", x, "0 1 2 3 4 5 6");
        x.key(7);
        CHECKS.due("whole again", x.whole(), 7);
        CHECKS.due("whole again: no moves", x.about(5), 0);
        x.key(6);
        CHECKS.dueTold("whole again: all is told", x, "H0@0 L0 C@0");
    }

    private static void promise12LineAt() {
        EarTable x = Checks.tableOf(FRUIT);
        x.cut(1, 1, 5);
        CHECKS.due("lineAt(0)", x.lineAt(0), 0);
        CHECKS.due("lineAt(1)", x.lineAt(1), 3);
        CHECKS.due("lineAt(2)", x.lineAt(2), -1);
        CHECKS.due("lineAt(-1)", x.lineAt(-1), -1);
        CHECKS.due("lineAt(max)", x.lineAt(Integer.MAX_VALUE), -1);
        CHECKS.due("lineAt(min)", x.lineAt(Integer.MIN_VALUE), -1);
    }

    private static void promise13Place() {
        EarTable x = Checks.tableOf(FRUIT);
        CHECKS.duePlace("at first", x, 0, 0);
        x.key(3);
        x.key(1);
        CHECKS.duePlace("moved", x, 1, 1);
        CHECKS.due("place(2)", x.place(2), -1);
        CHECKS.due("place(-1)", x.place(-1), -1);
    }

    private static void promise13PlaceWhenTheViewChanges() {
        EarTable x = Checks.tableOf(FRUIT);
        x.key(3);
        x.key(5);
        x.sort(2, false);
        CHECKS.duePlace("the line is in it still", x, 1, 2);
        x.whole();
        x.cut(1, 1, 5);
        CHECKS.duePlace("the first one behind it", x, 3, 2);
        x.whole();
        x.key(7);
        x.cut(1, 1, 5);
        CHECKS.duePlace("the last one ahead of it", x, 3, 2);
        x.whole();
        x.sort(1, true);
        CHECKS.dueView("sorted", x, "1 0 3 4 5");
        x.key(6);
        x.cut(2, 2, 4);
        CHECKS.duePlace("behind it in the view as it was", x, 3, 2);
        x.whole();
        x.sort(0, false);
        CHECKS.dueView("sorted the other way", x, "5 4 3 1 0");
        CHECKS.duePlace("sorted the other way", x, 3, 2);
        x.key(2);
        x.cut(1, 0, 6);
        CHECKS.duePlace("behind it, sorted the other way", x, 3, 2);
        EarTable y = Checks.tableOf("row 1; row 1; row 2; row 3; row 4;");
        y.key(7);
        y.cut(0, 0, 4);
        CHECKS.duePlace("the one just ahead of it", y, 3, 0);
        y.cut(0, 1, 1);
        CHECKS.duePlace("the last of two ahead of it", y, 1, 0);
        y.whole();
        y.key(7);
        y.set(1, 0, 9);
        y.cut(0, 1, 1);
        CHECKS.duePlace("the first line of all is ahead of it", y, 0, 0);
    }

    private static void promise13Nowhere() {
        EarTable x = Checks.tableOf(FRUIT);
        x.key(7);
        x.key(5);
        x.cut(0, 1, 1);
        CHECKS.duePlace("nowhere", x, -1, -1);
        x.cut(0, 1, 1);
        CHECKS.duePlace("nowhere still", x, -1, -1);
        x.whole();
        CHECKS.duePlace("out of nowhere: the first line, the column stays", x, 0, 2);
        EarTable y = Checks.tableOf("sum 1; sum 2;");
        CHECKS.due("sums alone, sorted", y.sort(0, true), 0);
        CHECKS.duePlace("sums alone, sorted", y, -1, -1);
    }
}
