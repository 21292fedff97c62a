import java.util.ArrayList;
import java.util.LinkedHashMap;
import java.util.List;
import java.util.Map;
import java.util.function.Consumer;
import java.util.function.ToLongFunction;

/**
 * "NONE, doing nothing": an object that refused a call, or was asked something, goes on just as its
 * twin that was not. What can't be asked (MARKS, moves, what was told last) is seen by going on.
 */
public final class RefusedTest {
    private static final Checks CHECKS = new Checks("RefusedTest");
    private static final String TEXT = "head a*2 b;head c d*2;row 1 2 x;row 3*2 -;sum 4 2 0;row 1 5 y;";
    private static final int LEAST = Integer.MIN_VALUE;
    private static final int GREATEST = Integer.MAX_VALUE;

    private record Call(String name, ToLongFunction<EarTable> answer, long due) { }

    private final Map<String, Consumer<EarTable>> states = new LinkedHashMap<>();
    private final List<Call> refused = new ArrayList<>();
    private final List<Call> asked = new ArrayList<>();

    public static void main(String[] args) {
        RefusedTest test = new RefusedTest();
        test.addStates();
        test.addRefused();
        test.addAsked();
        test.everyCallInEveryState();
        test.refusedInOneState();
        CHECKS.finish();
    }

    private static long asLong(boolean answer) {
        return answer ? 1 : 0;
    }

    private void addStates() {
        states.put("new", x -> { });
        states.put("heads alone", x -> give(x, "head a b c;"));
        states.put("a table", x -> give(x, TEXT));
        states.put("walked", RefusedTest::walk);
        states.put("at the edge", x -> {
            walk(x);
            x.key(6);
            x.key(6);
        });
        states.put("sorted", x -> {
            walk(x);
            x.sort(1, false);
            x.key(6);
            x.key(3);
        });
        states.put("cut", x -> {
            walk(x);
            x.cut(0, 0, 3);
            x.key(7);
        });
        states.put("nowhere", x -> {
            walk(x);
            x.cut(0, 0, -99);
        });
        states.put("bytes on the tape", x -> {
            walk(x);
            Checks.give(x, "row 7");
        });
        states.put("a fault", x -> {
            walk(x);
            Checks.give(x, "row 7*9;");
            x.table();
        });
    }

    private static void give(EarTable x, String text) {
        Checks.give(x, text);
        x.table();
    }

    private static void walk(EarTable x) {
        give(x, TEXT);
        x.key(3);
        x.mark(0);
        x.key(1);
        x.set(0, 0, 9);
        x.key(7);
        x.mark(4);
        x.clear(x.place(0), x.place(1));
        x.key(2);
    }

    private void refuse(String name, ToLongFunction<EarTable> answer) {
        refused.add(new Call(name, answer, -1));
    }

    /** Refused in every state there is. */
    private void addRefused() {
        for (int n : new int[] {-1, LEAST, 1601, GREATEST}) {
            refuse("end(" + n + ")", x -> x.end(n));
        }
        refuse("end of one more", x -> x.end(x.about(6) + 1));
        for (int column : new int[] {-1, 3, 8, LEAST, GREATEST}) {
            refuse("cut(" + column + ")", x -> x.cut(column, 1, 1));
            refuse("sort(" + column + ", true)", x -> x.sort(column, true));
            refuse("sort(" + column + ", false)", x -> x.sort(column, false));
            refuse("set column " + column, x -> x.set(0, column, 5));
            refuse("clear column " + column, x -> x.clear(0, column));
        }
        for (int what : new int[] {-1, 3, LEAST, GREATEST}) {
            refuse("cut what " + what, x -> x.cut(0, what, 1));
        }
        for (int key : new int[] {-1, 11, LEAST, GREATEST}) {
            refuse("key(" + key + ")", x -> x.key(key));
        }
        for (int k : new int[] {-1, 5, LEAST, GREATEST}) {
            refused.add(new Call("mark(" + k + ")", x -> asLong(x.mark(k)), 0));
            refuse("go(" + k + ")", x -> x.go(k));
        }
        refuse("go(2), not told", x -> x.go(2));
        for (int line : new int[] {-1, -2, -3, 4, 30, LEAST, GREATEST}) {
            refuse("set line " + line, x -> x.set(line, 0, 5));
            refuse("clear line " + line, x -> x.clear(line, 0));
        }
        for (int number : new int[] {1000000, -1000000, LEAST, GREATEST}) {
            refuse("set " + number, x -> x.set(0, 0, number));
        }
    }

    private void ask(String name, ToLongFunction<EarTable> answer) {
        asked.add(new Call(name, answer, 0));
    }

    /** They answer something and do nothing, with right and with wrong arguments. */
    private void addAsked() {
        for (int k : new int[] {0, 1, 2, 3, 7, -1, -2, LEAST, GREATEST}) {
            ask("fault", x -> x.fault(k));
            ask("cell", x -> x.cell(k, 0, 0) + x.cell(0, k, 1) + x.cell(0, 0, k));
            ask("number", x -> x.number(k, 0) + x.number(0, k));
            ask("letter", x -> x.letter(k, 2, 0) + x.letter(0, k, 0) + x.letter(0, 2, k));
            ask("lineAt", x -> x.lineAt(k));
            ask("place", x -> x.place(k));
            ask("told", x -> x.told(k, 0) + x.told(0, k));
            ask("keys", x -> x.keys(k, 0) + x.keys(0, k));
            ask("first", x -> x.first(k, 0) + x.first(0, k));
            ask("quarrels", x -> x.quarrels() + x.quarrel(k) + x.right(k));
            ask("greatest", x -> x.greatest(k));
            ask("compare", x -> x.compare(k, 0, 0) + x.compare(0, k, 1) + x.compare(0, 1, k));
            ask("shape", x -> x.shape(k));
            ask("about", x -> x.about(k));
        }
    }

    private void everyCallInEveryState() {
        for (Map.Entry<String, Consumer<EarTable>> state : states.entrySet()) {
            EarTable twin = new EarTable();
            state.getValue().accept(twin);
            String due = goneOn(twin);
            for (Call call : refused) {
                dueRefused(state.getKey(), state.getValue(), call, due);
            }
            for (Call call : asked) {
                EarTable x = new EarTable();
                state.getValue().accept(x);
                long first = call.answer.applyAsLong(x);
                String name = state.getKey() + ": " + call.name;
                CHECKS.due(name + " again", call.answer.applyAsLong(x), first);
                CHECKS.dueText(name + ": goes on", goneOn(x), due);
            }
        }
    }

    private static void dueRefused(String state, Consumer<EarTable> way, Call call, String due) {
        EarTable x = new EarTable();
        way.accept(x);
        CHECKS.due(state + ": " + call.name, call.answer.applyAsLong(x), call.due);
        CHECKS.dueText(state + ": " + call.name + ": goes on", goneOn(x), due);
    }

    /** Refused only in the state that leads to it. */
    private void refusedInOneState() {
        dueTwins("no moves", x -> give(x, TEXT), new Call("back", x -> x.back(), -1));
        dueTwins("no changes", x -> give(x, TEXT), new Call("undo", x -> asLong(x.undo()), 0));
        Consumer<EarTable> nowhere = states.get("nowhere");
        dueTwins("nowhere", nowhere, new Call("mark(0)", x -> asLong(x.mark(0)), 0));
        dueTwins("nowhere", nowhere, new Call("mark(1)", x -> asLong(x.mark(1)), 0));
        dueTwins("nowhere", nowhere, new Call("go(0)", x -> x.go(0), -1));
        dueTwins("cut away", states.get("cut"), new Call("go(0)", x -> x.go(0), -1));
        dueTwins("a fault", states.get("a fault"), new Call("table", x -> x.table(), -1));
        Consumer<EarTable> full = x -> {
            walk(x);
            for (int k = 0; k < 38; k++) {
                x.set(1, 1, k);
            }
        };
        dueTwins("forty stand", full, new Call("set", x -> x.set(0, 0, 5), -1));
        dueTwins("forty stand", full, new Call("clear", x -> x.clear(2, 0), -1));
        for (int length : new int[] {1581, 1600}) {
            Consumer<EarTable> fed = x -> {
                walk(x);
                Checks.give(x, " ".repeat(1600));
                x.end(length);
            };
            dueTwins(length + " bytes", fed, new Call("feed", x -> x.feed(1, 2, 3, 4, 5), -1));
        }
    }

    private static void dueTwins(String state, Consumer<EarTable> way, Call call) {
        EarTable twin = new EarTable();
        way.accept(twin);
        dueRefused(state, way, call, goneOn(twin));
    }

    /** All that can be asked, then what comes of keys, MARKS, moves, CHANGES and the TAPE. */
    private static String goneOn(EarTable x) {
        StringBuilder all = new StringBuilder(seen(x));
        all.append(" keys");
        for (int key : new int[] {0, 1, 2}) {
            all.append(' ').append(x.key(key)).append(told(x));
        }
        all.append(" marks");
        for (int k = 0; k <= 4; k++) {
            all.append(' ').append(x.go(k)).append(told(x));
        }
        all.append(" moves");
        for (int k = 0; k <= 50 && x.about(5) > 0; k++) {
            all.append(' ').append(x.back()).append('@').append(x.place(0)).append(x.place(1));
        }
        all.append(" changes");
        for (int k = 0; k <= 40 && x.undo(); k++) {
            all.append(' ').append(x.number(0, 0)).append(x.number(1, 0)).append(x.cell(3, 2, 0));
        }
        all.append(" whole ").append(x.whole()).append(x.place(0)).append(x.place(1));
        all.append(" table ").append(x.table()).append(x.fault(0)).append(x.fault(1));
        return all.toString();
    }

    private static String seen(EarTable x) {
        StringBuilder all = new StringBuilder(told(x));
        for (int what = 0; what <= 7; what++) {
            all.append(' ').append(x.about(what));
        }
        all.append(" fault ").append(x.fault(0)).append('@').append(x.fault(1));
        all.append(" place ").append(x.place(0)).append(x.place(1)).append(" view");
        for (int k = 0; k < x.about(3); k++) {
            all.append(' ').append(x.lineAt(k));
        }
        for (int line = -2; line < 4; line++) {
            for (int column = 0; column < 3; column++) {
                all.append(' ').append(x.cell(line, column, 0)).append(x.number(line, column));
            }
        }
        return all.toString();
    }

    private static String told(EarTable x) {
        StringBuilder all = new StringBuilder("[");
        for (int k = 0; k < x.about(7); k++) {
            all.append(x.told(k, 0)).append(x.told(k, 1)).append(x.told(k, 2)).append(' ');
        }
        return all.append(']').toString();
    }
}
