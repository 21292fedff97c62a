import java.util.ArrayDeque;
import java.util.ArrayList;
import java.util.Arrays;
import java.util.Comparator;
import java.util.Deque;
import java.util.List;
import java.util.Objects;
import java.util.regex.Matcher;
import java.util.regex.Pattern;

/** The document a second time, as plainly as the Java library allows, to compare EarTable with. */
final class Model {
    private static final int NONE = -1;
    private static final Pattern TOKEN =
            Pattern.compile("[a-z]{1,10}(?![a-z])|-?[0-9]{1,6}(?![0-9a-z])|-(?![0-9])|[;*]");

    /** What it holds is an Integer, a String, or null. */
    private static final class Cell {
        final int first;
        final int width;
        Object held;

        Cell(int first, int width, Object held) {
            this.first = first;
            this.width = width;
            this.held = held;
        }

        boolean isNumber() {
            return held instanceof Integer;
        }

        int number() {
            return (Integer) held;
        }
    }

    private static final class Line {
        final String word;
        final List<Cell> columns = new ArrayList<>();

        Line(String word) {
            this.word = word;
        }
    }

    private record Token(String text, int place) { }

    private record Fault(int kind, int place) { }

    private record Place(int line, int column) { }

    private record Told(int kind, int level, int where) { }

    private record Change(Cell cell, Object before) { }

    private StringBuilder tape = new StringBuilder();
    private List<Line> heads = new ArrayList<>();
    private List<Line> lines = new ArrayList<>();
    private int columns;
    private Fault fault = new Fault(0, NONE);
    private List<Integer> view = new ArrayList<>();
    private int placeLine = NONE;
    private int placeColumn;
    private Place last;
    private final Place[] marks = new Place[5];
    private final Deque<Place> moves = new ArrayDeque<>();
    private final Deque<Change> changes = new ArrayDeque<>();
    private List<Told> told = new ArrayList<>();

    int feed(int... numbers) {
        if (tape.length() + 20 > 1600) {
            return NONE;
        }
        for (int number : numbers) {
            for (int k = 3; k >= 0; k--) {
                tape.append((char) (number >> (8 * k) & 255));
            }
        }
        return tape.length();
    }

    int end(int n) {
        if (n < 0 || n > tape.length()) {
            return NONE;
        }
        tape.setLength(n);
        return n;
    }

    int table() {
        List<Line> read = new ArrayList<>();
        List<Fault> faults = new ArrayList<>();
        readLines(tokens(), read, faults);
        if (!faults.isEmpty()) {
            faults.sort(Comparator.comparingInt(Fault::place).thenComparingInt(Fault::kind));
            fault = faults.get(0);
            return NONE;
        }
        fault = new Fault(0, NONE);
        tape = new StringBuilder();
        heads = read.stream().filter(line -> line.word.equals("head")).toList();
        lines = read.stream().filter(line -> !line.word.equals("head")).toList();
        columns = read.isEmpty() ? 0 : read.get(0).columns.size();
        Arrays.fill(marks, null);
        changes.clear();
        moves.clear();
        told = new ArrayList<>();
        last = null;
        view = allLines();
        placeLine = view.isEmpty() ? NONE : 0;
        placeColumn = 0;
        return lines.size();
    }

    /** All TOKENS, then an empty one at the end, or "?" where there is none. */
    private List<Token> tokens() {
        List<Token> tokens = new ArrayList<>();
        Matcher matcher = TOKEN.matcher(tape);
        int at = 0;
        while (true) {
            while (at < tape.length() && (tape.charAt(at) == ' ' || tape.charAt(at) == '\n')) {
                at++;
            }
            if (at == tape.length()) {
                tokens.add(new Token("", at));
                return tokens;
            }
            matcher.region(at, tape.length());
            if (!matcher.lookingAt()) {
                tokens.add(new Token("?", at));
                return tokens;
            }
            tokens.add(new Token(matcher.group(), at));
            at = matcher.end();
        }
    }

    private static void readLines(List<Token> tokens, List<Line> read, List<Fault> faults) {
        int k = 0;
        int headCount = 0;
        int lineCount = 0;
        while (!tokens.get(k).text.isEmpty()) {
            Token word = tokens.get(k);
            boolean isHead = word.text.equals("head");
            boolean isLine = word.text.equals("row") || word.text.equals("sum");
            if (isHead && headCount < 3 && lineCount == 0) {
                headCount++;
            } else if (isLine && lineCount < 30) {
                lineCount++;
            } else {
                faults.add(new Fault(word.text.equals("?") ? 1 : 2, word.place));
                return;
            }
            int most = read.isEmpty() ? 8 : read.get(0).columns.size();
            Line line = new Line(word.text);
            k = readCells(tokens, k + 1, line, most, faults);
            if (!faults.isEmpty()) {
                return;
            }
            if (!read.isEmpty() && line.columns.size() < most) {
                faults.add(new Fault(5, tokens.get(k - 1).place));
                return;
            }
            read.add(line);
        }
    }

    /** Where the TOKEN behind the ; is. */
    private static int readCells(List<Token> tokens, int start, Line line, int most,
            List<Fault> faults) {
        int k = start;
        while (k == start || !tokens.get(k).text.equals(";")) {
            Token token = tokens.get(k);
            if (!token.text.matches("-|-?[0-9]+|[a-z]+") || token.text.matches("head|row|sum")) {
                faults.add(new Fault(token.text.equals("?") ? 1 : 2, token.place));
                return k;
            }
            int width = 1;
            k++;
            if (tokens.get(k).text.equals("*")) {
                Token number = tokens.get(k + 1);
                if (!number.text.matches("-?[0-9]+")) {
                    faults.add(new Fault(number.text.equals("?") ? 1 : 2, number.place));
                } else if (!number.text.matches("0*[1-8]")) {
                    faults.add(new Fault(3, number.place));
                } else {
                    width = Integer.parseInt(number.text);
                }
                k += 2;
            }
            if (line.columns.size() + width > most) {
                faults.add(new Fault(4, token.place));
            }
            if (!faults.isEmpty()) {
                return k;
            }
            Cell cell = new Cell(line.columns.size(), width, held(token.text));
            for (int count = 0; count < width; count++) {
                line.columns.add(cell);
            }
        }
        return k + 1;
    }

    private static Object held(String text) {
        if (text.equals("-")) {
            return null;
        }
        return text.matches("[a-z]+") ? text : (Object) Integer.valueOf(text);
    }

    int fault(int what) {
        return what == 0 ? fault.kind : what == 1 ? fault.place : NONE;
    }

    private Cell cellAt(int line, int column) {
        if (column < 0 || column >= columns || line >= lines.size() || line < -heads.size()) {
            return null;
        }
        return (line < 0 ? heads.get(-1 - line) : lines.get(line)).columns.get(column);
    }

    int cell(int line, int column, int what) {
        Cell cell = cellAt(line, column);
        if (cell == null || what < 0 || what > 3) {
            return -1000000;
        }
        int kind = cell.held == null ? 0 : cell.isNumber() ? 1 : 2;
        int letters = kind == 2 ? ((String) cell.held).length() : 0;
        return new int[] {kind, cell.first, cell.width, letters}[what];
    }

    int number(int line, int column) {
        Cell cell = cellAt(line, column);
        return cell != null && cell.isNumber() ? cell.number() : 0;
    }

    int letter(int line, int column, int k) {
        Cell cell = cellAt(line, column);
        if (cell == null || !(cell.held instanceof String name) || k < 0 || k >= name.length()) {
            return NONE;
        }
        return name.charAt(k);
    }

    private List<Integer> allLines() {
        List<Integer> all = new ArrayList<>();
        for (int line = 0; line < lines.size(); line++) {
            all.add(line);
        }
        return all;
    }

    private boolean isRow(int line) {
        return lines.get(line).word.equals("row");
    }

    private int showView(List<Integer> next) {
        List<Integer> nearest = new ArrayList<>();
        if (placeLine == NONE) {
            nearest.addAll(next);
        } else {
            int at = view.indexOf(placeLine);
            nearest.addAll(view.subList(at, view.size()));
            for (int k = at - 1; k >= 0; k--) {
                nearest.add(view.get(k));
            }
        }
        placeLine = nearest.stream().filter(next::contains).findFirst().orElse(NONE);
        view = next;
        moves.clear();
        last = null;
        return view.size();
    }

    private static int side(int one, int other) {
        return Integer.signum(Integer.compare(one, other)) + 1;
    }

    int cut(int column, int what, int value) {
        if (column < 0 || column >= columns || what < 0 || what > 2) {
            return NONE;
        }
        return showView(new ArrayList<>(view.stream().filter(this::isRow)
                .filter(line -> cellAt(line, column).isNumber()
                        && side(cellAt(line, column).number(), value) == what).toList()));
    }

    int sort(int column, boolean up) {
        if (column < 0 || column >= columns) {
            return NONE;
        }
        Comparator<Integer> byHeld = (one, other) ->
                compareHeld(cellAt(one, column).held, cellAt(other, column).held);
        Comparator<Integer> holesLast = Comparator.comparing(
                line -> cellAt(line, column).held == null);
        return showView(new ArrayList<>(view.stream().filter(this::isRow)
                .sorted(holesLast.thenComparing(up ? byHeld : byHeld.reversed())).toList()));
    }

    private static int compareHeld(Object one, Object other) {
        if (one instanceof Integer a && other instanceof Integer b) {
            return a.compareTo(b);
        }
        if (one instanceof String a && other instanceof String b) {
            return a.compareTo(b);
        }
        return one == null && other == null ? 0 : one instanceof Integer ? -1 : 1;
    }

    int whole() {
        return showView(allLines());
    }

    int lineAt(int k) {
        return k >= 0 && k < view.size() ? view.get(k) : NONE;
    }

    int place(int what) {
        return placeLine == NONE ? NONE : what == 0 ? placeLine : what == 1 ? placeColumn : NONE;
    }

    /** Where a key leads; null at the EDGE. */
    private Place lead(Place from, int key) {
        int at = view.indexOf(from.line);
        Cell cell = cellAt(from.line, from.column);
        Place to = switch (key) {
            case 0 -> cell.first == 0 ? null
                    : new Place(from.line, cellAt(from.line, cell.first - 1).first);
            case 1 -> cell.first + cell.width == columns ? null
                    : new Place(from.line, cell.first + cell.width);
            case 2 -> at == 0 ? null : new Place(view.get(at - 1), from.column);
            case 3 -> at == view.size() - 1 ? null : new Place(view.get(at + 1), from.column);
            case 4 -> new Place(from.line, 0);
            case 5 -> new Place(from.line, cellAt(from.line, columns - 1).first);
            case 6 -> new Place(view.get(0), from.column);
            case 7 -> new Place(view.get(view.size() - 1), from.column);
            case 8, 9 -> view.subList(at + 1, view.size()).stream()
                    .filter(line -> Objects.equals(cellAt(line, from.column).held, cell.held)
                            == (key == 9))
                    .findFirst().map(line -> new Place(line, from.column)).orElse(null);
            default -> nextHead(from);
        };
        return from.equals(to) ? null : to;
    }

    private Place nextHead(Place from) {
        for (int column = from.column + 1; column < columns && !heads.isEmpty(); column++) {
            if (cellAt(-1, column) != cellAt(-1, from.column)) {
                return new Place(from.line, column);
            }
        }
        return null;
    }

    private int tell(List<Told> now) {
        told = now;
        return told.size();
    }

    private int tellEdge() {
        return tell(List.of(new Told(0, NONE, NONE)));
    }

    private int arrive(Place to) {
        placeLine = to.line;
        placeColumn = to.column;
        List<Told> now = new ArrayList<>();
        for (int level = 0; level < heads.size(); level++) {
            Cell head = cellAt(-1 - level, to.column);
            if (last == null || cellAt(-1 - level, last.column) != head) {
                now.add(new Told(1, level, head.first));
            }
        }
        if (last == null || last.line != to.line) {
            now.add(new Told(2, NONE, to.line));
        }
        now.add(new Told(3, NONE, cellAt(to.line, to.column).first));
        last = to;
        return tell(now);
    }

    private int move(Place to) {
        moves.addLast(new Place(placeLine, placeColumn));
        if (moves.size() > 50) {
            moves.removeFirst();
        }
        return arrive(to);
    }

    int key(int key) {
        if (key < 0 || key > 10) {
            return NONE;
        }
        Place to = placeLine == NONE ? null : lead(new Place(placeLine, placeColumn), key);
        return to == null ? tellEdge() : move(to);
    }

    int back() {
        return moves.isEmpty() ? NONE : arrive(moves.removeLast());
    }

    int told(int k, int what) {
        if (k < 0 || k >= told.size() || what < 0 || what > 2) {
            return NONE;
        }
        Told one = told.get(k);
        return new int[] {one.kind, one.level, one.where}[what];
    }

    boolean mark(int k) {
        if (k < 0 || k > 4 || placeLine == NONE) {
            return false;
        }
        marks[k] = new Place(placeLine, placeColumn);
        return true;
    }

    int go(int k) {
        if (k < 0 || k > 4 || marks[k] == null || !view.contains(marks[k].line)) {
            return NONE;
        }
        return marks[k].equals(new Place(placeLine, placeColumn)) ? tellEdge() : move(marks[k]);
    }

    /**
     * The length of the best way and its first key: every first key is tried by itself, with a
     * search of its own behind it.
     */
    private int[] bestWay(int line, int column) {
        Place here = new Place(placeLine, placeColumn);
        Place goal = new Place(line, column);
        if (placeLine == NONE || !view.contains(line) || column < 0 || column >= columns) {
            return new int[] {NONE, NONE};
        }
        if (here.equals(goal)) {
            return new int[] {0, NONE};
        }
        int[] best = {NONE, NONE};
        for (int key = 0; key <= 10; key++) {
            Place to = lead(here, key);
            int rest = to == null ? NONE : wayLength(to, goal);
            if (rest != NONE && (best[0] == NONE || rest + 1 < best[0])) {
                best = new int[] {rest + 1, key};
            }
        }
        return best;
    }

    private int wayLength(Place from, Place goal) {
        List<Place> seen = new ArrayList<>(List.of(from));
        List<Place> ring = List.of(from);
        for (int length = 0; !ring.isEmpty(); length++) {
            if (ring.contains(goal)) {
                return length;
            }
            List<Place> next = new ArrayList<>();
            for (Place place : ring) {
                for (int key = 0; key <= 10; key++) {
                    Place to = lead(place, key);
                    if (to != null && !seen.contains(to)) {
                        seen.add(to);
                        next.add(to);
                    }
                }
            }
            ring = next;
        }
        return NONE;
    }

    int keys(int line, int column) {
        return bestWay(line, column)[0];
    }

    int first(int line, int column) {
        return bestWay(line, column)[1];
    }

    private int change(int line, int column, Object held) {
        Cell cell = line < 0 ? null : cellAt(line, column);
        if (cell == null || changes.size() == 40) {
            return NONE;
        }
        changes.addLast(new Change(cell, cell.held));
        hold(cell, held);
        return changes.size();
    }

    private void hold(Cell cell, Object held) {
        cell.held = held;
        if (placeLine != NONE && cellAt(placeLine, placeColumn) == cell) {
            tell(List.of(new Told(3, NONE, cell.first)));
        }
    }

    int set(int line, int column, int number) {
        return number < -999999 || number > 999999 ? NONE : change(line, column, number);
    }

    int clear(int line, int column) {
        return change(line, column, null);
    }

    boolean undo() {
        if (changes.isEmpty()) {
            return false;
        }
        Change change = changes.removeLast();
        hold(change.cell, change.before);
        return true;
    }

    /** LINE, column and the right sum of each. */
    private List<long[]> allQuarrels() {
        List<long[]> quarrels = new ArrayList<>();
        long[] sums = new long[columns];
        for (int line = 0; line < lines.size(); line++) {
            for (int column = 0; column < columns; column++) {
                Cell cell = cellAt(line, column);
                boolean counts = cell.isNumber() && cell.width == 1;
                if (counts && isRow(line)) {
                    sums[column] += cell.number();
                } else if (counts && sums[column] != cell.number()) {
                    quarrels.add(new long[] {line, column, sums[column]});
                }
            }
            if (!isRow(line)) {
                sums = new long[columns];
            }
        }
        return quarrels;
    }

    int quarrels() {
        return allQuarrels().size();
    }

    int quarrel(int k) {
        List<long[]> all = allQuarrels();
        return k < 0 || k >= all.size() ? NONE : (int) (100 * all.get(k)[0] + all.get(k)[1]);
    }

    long right(int k) {
        List<long[]> all = allQuarrels();
        return k < 0 || k >= all.size() ? 0 : all.get(k)[2];
    }

    private List<Integer> linesWithNumbers(int column) {
        return view.stream().filter(line -> cellAt(line, column).isNumber()).toList();
    }

    int greatest(int column) {
        if (column < 0 || column >= columns) {
            return NONE;
        }
        List<Integer> with = linesWithNumbers(column);
        int most = with.stream().mapToInt(line -> number(line, column)).max().orElse(0);
        return with.stream().filter(line -> number(line, column) == most).findFirst().orElse(NONE);
    }

    int compare(int a, int b, int what) {
        if (a < 0 || a >= columns || b < 0 || b >= columns || what < 0 || what > 2) {
            return NONE;
        }
        return (int) view.stream()
                .filter(line -> cellAt(line, a).isNumber() && cellAt(line, b).isNumber())
                .filter(line -> side(number(line, a), number(line, b)) == what).count();
    }

    int shape(int column) {
        if (column < 0 || column >= columns) {
            return NONE;
        }
        int[] n = linesWithNumbers(column).stream().mapToInt(line -> number(line, column)).toArray();
        if (n.length < 2) {
            return 0;
        }
        if (isRising(n, 0, n.length, 1) && isRising(n, 0, n.length, -1)) {
            return 1;
        }
        for (int shape = 2; shape <= 3; shape++) {
            if (isRising(n, 0, n.length, shape == 2 ? 1 : -1)) {
                return shape;
            }
        }
        for (int shape = 4; shape <= 5; shape++) {
            int sign = shape == 4 ? 1 : -1;
            for (int turn = 0; turn < n.length; turn++) {
                if (isRising(n, 0, turn + 1, sign) && isRising(n, turn, n.length, -sign)) {
                    return shape;
                }
            }
        }
        return 6;
    }

    private static boolean isRising(int[] n, int start, int end, int sign) {
        for (int k = start + 1; k < end; k++) {
            if (sign * n[k] < sign * n[k - 1]) {
                return false;
            }
        }
        return true;
    }

    int about(int what) {
        int[] all = {columns, lines.size(), heads.size(), view.size(), changes.size(),
            moves.size(), tape.length(), told.size()};
        return what < 0 || what > 7 ? NONE : all[what];
    }
}
