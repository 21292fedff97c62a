import java.util.Random;

/**
 * Long random runs, and all short texts of some scraps: EarTable and the model must give the same
 * answers, call for call.
 */
public final class ModelTest {
    private static final Checks CHECKS = new Checks("ModelTest");
    private static final int RUNS = 1500;
    private static final int CALLS = 512;
    private static final int[] EXTREMES = {Integer.MIN_VALUE, Integer.MIN_VALUE + 1, -1000000, -31,
        -9, 8, 9, 30, 31, 50, 100, 1000000, Integer.MAX_VALUE - 1, Integer.MAX_VALUE};
    private static final String[] SCRAPS = {"head", "row", "sum", ";", "*", "-", " ", "\n", "0", "7",
        "9", "1234567", "abcdefghijk", "?", "A", "\u00ff", "\t", "*2", "*9", "x", "--", "-5", "12a"};

    private static final String[] BEGINNINGS = {"", "head a*2;row ", "row 1 2;", "row 1*8;row a"};
    private static final String[] PIECES = {"row ", "head ", "sum", "a", "1", "-", "*", ";", "*2", "9",
        "?", " "};
    private static final int PIECES_MOST = 4;

    private final Random random;
    private final EarTable real = new EarTable();
    private final Model model = new Model();
    private int calls;
    private int columns;
    private int lines;

    private ModelTest(int seed) {
        random = new Random(seed);
    }

    public static void main(String[] args) {
        for (int seed = 0; seed < RUNS; seed++) {
            new ModelTest(seed).run(seed);
        }
        for (String beginning : BEGINNINGS) {
            readAllFrom(beginning, PIECES_MOST);
        }
        CHECKS.finish();
    }

    private static void readAllFrom(String text, int piecesLeft) {
        new ModelTest(0).read(text);
        for (int k = 0; k < PIECES.length && piecesLeft > 0; k++) {
            readAllFrom(text + PIECES[k], piecesLeft - 1);
        }
    }

    private void read(String text) {
        giveText(text);
        sameTable(text);
        for (int what = 0; what <= 6; what++) {
            same("'" + text + "': about", real.about(what), model.about(what));
        }
    }

    private void run(int seed) {
        while (calls < CALLS) {
            if (calls == 0 || random.nextInt(90) == 0) {
                String text = seed % 5 == 4 ? spoilt(text()) : text();
                giveText(text);
                sameTable(text);
                columns = real.about(0);
                lines = real.about(1);
            }
            change();
            ask();
        }
    }

    private void sameTable(String text) {
        same("'" + text + "': table", real.table(), model.table());
        same("'" + text + "': fault(0)", real.fault(0), model.fault(0));
        same("'" + text + "': fault(1)", real.fault(1), model.fault(1));
    }

    private void same(String call, long got, long want) {
        calls++;
        CHECKS.due(call, got, want);
    }

    private String text() {
        StringBuilder text = new StringBuilder();
        int width = 1 + random.nextInt(8);
        int headCount = random.nextInt(4);
        int lineCount = random.nextInt(6) == 0 ? 30 : random.nextInt(12);
        for (int k = 0; k < headCount; k++) {
            addLine(text, "head", width);
        }
        for (int k = 0; k < lineCount; k++) {
            addLine(text, random.nextInt(5) == 0 ? "sum" : "row", width);
        }
        return text.toString();
    }

    private void addLine(StringBuilder text, String word, int width) {
        text.append(word);
        int column = 0;
        while (column < width) {
            int most = width - column;
            int over = random.nextInt(3) == 0 ? 1 + random.nextInt(most) : 1;
            text.append(random.nextInt(9) == 0 ? "\n " : " ").append(content());
            if (over > 1 || random.nextInt(12) == 0) {
                text.append("*").append(over);
            }
            column += over;
        }
        text.append(";");
    }

    private String content() {
        switch (random.nextInt(8)) {
            case 0:
                return "-";
            case 1:
                return random.nextInt(9) == 0 ? "zzzzzzzzzz" : "a".repeat(1 + random.nextInt(3));
            case 2:
                return "" + (char) ('a' + random.nextInt(3)) + (char) ('a' + random.nextInt(3));
            case 3:
                return "" + (random.nextInt(1999999) - 999999);
            default:
                return "" + (random.nextInt(7) - 2);
        }
    }

    private String spoilt(String text) {
        StringBuilder spoilt = new StringBuilder(text);
        for (int k = random.nextInt(3); k >= 0 && spoilt.length() > 0; k--) {
            int at = random.nextInt(spoilt.length());
            int end = Math.min(spoilt.length(), at + random.nextInt(3));
            spoilt.replace(at, end, SCRAPS[random.nextInt(SCRAPS.length)]);
        }
        return spoilt.toString();
    }

    private void giveText(String text) {
        same("end(0)", real.end(0), model.end(0));
        int length = Math.min(1600, text.length());
        for (int start = 0; start < length; start += 20) {
            int[] n = new int[5];
            for (int k = 0; k < 20; k++) {
                int at = start + k;
                n[k / 4] = n[k / 4] << 8 | (at < length ? text.charAt(at) : ' ');
            }
            same("feed", real.feed(n[0], n[1], n[2], n[3], n[4]), model.feed(n));
        }
        same("end", real.end(length), model.end(length));
    }

    private int some(int low, int high) {
        if (random.nextInt(40) == 0) {
            return EXTREMES[random.nextInt(EXTREMES.length)];
        }
        return low + random.nextInt(high - low + 1);
    }

    private int someLine() {
        return some(random.nextInt(6) == 0 ? -4 : 0, Math.max(0, lines - 1 + random.nextInt(2)));
    }

    private int someColumn() {
        return some(random.nextInt(6) == 0 ? -1 : 0, Math.max(0, columns - 1 + random.nextInt(2)));
    }

    private void change() {
        int a = someColumn();
        int b = some(0, 2);
        int c = some(-2, 5);
        int line = someLine();
        switch (random.nextInt(16)) {
            case 0:
                if (random.nextInt(3) == 0) {
                    same("cut", real.cut(a, b, c), model.cut(a, b, c));
                }
                break;
            case 1:
                if (random.nextInt(3) == 0) {
                    same("sort", real.sort(a, c > 1), model.sort(a, c > 1));
                }
                break;
            case 2:
                if (random.nextInt(2) == 0) {
                    same("whole", real.whole(), model.whole());
                }
                break;
            case 3:
                same("back", real.back(), model.back());
                break;
            case 4:
                same("mark", real.mark(c) ? 1 : 0, model.mark(c) ? 1 : 0);
                break;
            case 5:
                same("go", real.go(c), model.go(c));
                break;
            case 6:
                same("set", real.set(line, a, c), model.set(line, a, c));
                break;
            case 7:
                same("clear", real.clear(line, a), model.clear(line, a));
                break;
            case 8:
                if (random.nextInt(2) == 0) {
                    same("undo", real.undo() ? 1 : 0, model.undo() ? 1 : 0);
                }
                break;
            default:
                int key = some(random.nextInt(20) == 0 ? -1 : 0, random.nextInt(20) == 0 ? 11 : 10);
                same("key", real.key(key), model.key(key));
                break;
        }
        for (int what = -1; what <= 2; what++) {
            same("place", real.place(what), model.place(what));
        }
    }

    private void ask() {
        int line = someLine();
        int a = someColumn();
        int b = someColumn();
        int k = some(-1, 6);
        int what = some(-1, 8);
        switch (random.nextInt(15)) {
            case 0:
                same("cell", real.cell(line, a, what), model.cell(line, a, what));
                break;
            case 1:
                same("number", real.number(line, a), model.number(line, a));
                break;
            case 2:
                same("letter", real.letter(line, a, k), model.letter(line, a, k));
                break;
            case 3:
                same("lineAt", real.lineAt(k), model.lineAt(k));
                break;
            case 4:
                if (random.nextInt(20) == 0) {
                    same("keys", real.keys(line, a), model.keys(line, a));
                    same("first", real.first(line, a), model.first(line, a));
                }
                break;
            case 5:
                same("quarrels", real.quarrels(), model.quarrels());
                break;
            case 6:
                same("quarrel", real.quarrel(k), model.quarrel(k));
                break;
            case 7:
                same("right", real.right(k), model.right(k));
                break;
            case 8:
                same("greatest", real.greatest(a), model.greatest(a));
                break;
            case 9:
                same("compare", real.compare(a, b, what), model.compare(a, b, what));
                break;
            case 10:
                same("shape", real.shape(a), model.shape(a));
                break;
            case 11:
                same("fault", real.fault(what), model.fault(what));
                break;
            case 12:
                same("about", real.about(what), model.about(what));
                break;
            default:
                int count = real.about(7);
                same("about(7)", count, model.about(7));
                for (int at = 0; at <= count; at++) {
                    int part = some(-1, 3);
                    same("told", real.told(at, part), model.told(at, part));
                }
                break;
        }
    }
}
