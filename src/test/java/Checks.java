/** Counts answers that are not the due ones; what every test of the project shares. */
final class Checks {
    static final int NO_CELL = -1000000;

    private final String test;
    private int asked;
    private int wrong;

    Checks(String test) {
        this.test = test;
    }

    void due(String call, long got, long want) {
        asked++;
        if (got != want) {
            wrong++;
            System.out.println(test + ": " + call + " answered " + got + ", due is " + want);
        }
    }

    void due(String call, boolean got, boolean want) {
        due(call, got ? 1 : 0, want ? 1 : 0);
    }

    /** The LINES of the VIEW, parted by blanks. */
    void dueView(String call, EarTable x, String want) {
        StringBuilder got = new StringBuilder();
        for (int k = 0; x.lineAt(k) != EarTable.NONE; k++) {
            got.append(k == 0 ? "" : " ").append(x.lineAt(k));
        }
        dueText(call, got.toString(), want);
    }

    /** What was told: E for EDGE, Hlevel@column, Lline, C@column. */
    void dueTold(String call, EarTable x, String want) {
        StringBuilder got = new StringBuilder();
        for (int k = 0; k < x.about(7); k++) {
            got.append(k == 0 ? "" : " ").append(toldAt(x, k));
        }
        dueText(call, got.toString(), want);
    }

    void duePlace(String call, EarTable x, int line, int column) {
        due(call + ": line", x.place(0), line);
        due(call + ": column", x.place(1), column);
    }

    /** Gives the text to a new object: FAULT 0 at -1 where there is to be none. */
    void dueFault(String text, int fault, int place) {
        EarTable x = new EarTable();
        give(x, text);
        due("'" + text + "'", x.table() == -1, fault != 0);
        due("'" + text + "' fault", x.fault(0), fault);
        due("'" + text + "' place", x.fault(1), place);
    }

    void dueShape(String contents, int want) {
        due("shape of " + contents, rowsOf(contents).shape(0), want);
    }

    /** What the CELLS of a LINE (or level) hold, each once: a number, its letters, or -. */
    void dueCells(String text, EarTable x, int line, String want) {
        StringBuilder got = new StringBuilder();
        for (int column = 0; column < x.about(0); column += x.cell(line, column, 2)) {
            got.append(column == 0 ? "" : " ").append(contentOf(x, line, column));
        }
        dueText("'" + text + "' line " + line, got.toString(), want);
    }

    void dueText(String call, String got, String want) {
        asked++;
        if (!got.equals(want)) {
            wrong++;
            System.out.println(test + ": " + call + " gave '" + got + "', due is '" + want + "'");
        }
    }

    void finish() {
        System.out.println(test + ": " + asked + " answers, " + wrong + " not as due");
        if (wrong != 0 || asked == 0) {
            System.exit(1);
        }
    }

    static EarTable tableOf(String text) {
        EarTable x = new EarTable();
        give(x, text);
        x.table();
        return x;
    }

    /** A table of one column, a row for each of the contents. */
    static EarTable rowsOf(String contents) {
        StringBuilder text = new StringBuilder();
        for (String content : contents.split(" ")) {
            text.append("row ").append(content).append(';');
        }
        return tableOf(text.toString());
    }

    /** Puts a text on the TAPE; the blanks that fill up its last feed are cut by end(). */
    static void give(EarTable x, String text) {
        int before = x.about(6);
        for (int start = 0; start < text.length(); start += 20) {
            x.feed(word(text, start), word(text, start + 4), word(text, start + 8),
                    word(text, start + 12), word(text, start + 16));
        }
        x.end(before + text.length());
    }

    private static int word(String text, int start) {
        int word = 0;
        for (int k = start; k < start + 4; k++) {
            word = word << 8 | (k < text.length() ? text.charAt(k) : ' ');
        }
        return word;
    }

    private static String contentOf(EarTable x, int line, int column) {
        switch (x.cell(line, column, 0)) {
            case 0:
                return "-";
            case 1:
                return "" + x.number(line, column);
            case 2:
                StringBuilder name = new StringBuilder();
                for (int k = 0; x.letter(line, column, k) != EarTable.NONE; k++) {
                    name.append((char) x.letter(line, column, k));
                }
                return name.toString();
            default:
                return "?";
        }
    }

    private static String toldAt(EarTable x, int k) {
        int kind = x.told(k, 0);
        int level = x.told(k, 1);
        int where = x.told(k, 2);
        if (kind == 1) {
            return "H" + level + "@" + where;
        }
        // Of the others no level is told, and of an EDGE nothing else at all.
        if (level != EarTable.NONE || kind == 0 && where != EarTable.NONE) {
            return "?";
        }
        return kind == 0 ? "E" : kind == 2 ? "L" + where : kind == 3 ? "C@" + where : "?";
    }
}
