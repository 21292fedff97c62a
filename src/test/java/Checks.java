/** Counts answers that are not the due ones; what every test of the project shares. */
final class Checks {
    static final int NO_CELL = -1000000;

    private final String test;
    private int asked;
    private int wrong;

    Checks(String test) {
        this.test = test;
    }

    void due(String call, long got, long want) {
        asked++;
        if (got != want) {
            wrong++;
            System.out.println(test + ": " + call + " answered " + got + ", due is " + want);
        }
    }

    void due(String call, boolean got, boolean want) {
        due(call, got ? 1 : 0, want ? 1 : 0);
    }

    /** The LINES of the VIEW, parted by blanks. */
    void dueView(String call, EarTable x, String want) {
        StringBuilder got = new StringBuilder();
        for (int k = 0; x.lineAt(k) != EarTable.NONE; k++) {
            got.append(k == 0 ? "" : " ").append(x.lineAt(k));
        }
        dueText(call, got.toString(), want);
    }

    /** What was told: E for EDGE, Hlevel@column, Lline, C@column. */
    void dueTold(String call, EarTable x, String want) {
        StringBuilder got = new StringBuilder();
        for (int k = 0; k < x.about(7); k++) {
            got.append(k == 0 ? "" : " ").append(toldAt(x, k));
        }
        dueText(call, got.toString(), want);
    }

    void duePlace(String call, EarTable x, int line, int column) {
        due(call + ": line", x.place(0), line);
        due(call + ": column", x.place(1), column);
    }

    void dueText(String call, String got, String want) {
        asked++;
        if (!got.equals(want)) {
            wrong++;
            System.out.println(test + ": " + call + " gave '" + got + "', due is '" + want + "'");
        }
    }

    void finish() {
        System.out.println(test + ": " + asked + " answers, " + wrong + " not as due");
        if (wrong != 0 || asked == 0) {
            System.exit(1);
        }
    }

    static EarTable tableOf(String text) {
        EarTable x = new EarTable();
        give(x, text);
        x.table();
        return x;
    }

    /** Puts a text on the TAPE; the blanks that fill up its last feed are cut by end(). */
    static void give(EarTable x, String text) {
        int before = x.about(6);
        for (int start = 0; start < text.length(); start += 20) {
            x.feed(word(text, start), word(text, start + 4), word(text, start + 8),
                    word(text, start + 12), word(text, start + 16));
        }
        x.end(before + text.length());
    }

    private static int word(String text, int start) {
        int word = 0;
        for (int k = start; k < start + 4; k++) {
            word = word << 8 | (k < text.length() ? text.charAt(k) : ' ');
        }
        return word;
    }

    private static String toldAt(EarTable x, int k) {
        switch (x.told(k, 0)) {
            case 0:
                return "E";
            case 1:
                return "H" + x.told(k, 1) + "@" + x.told(k, 2);
            case 2:
                return "L" + x.told(k, 2);
            case 3:
                return "C@" + x.told(k, 2);
            default:
                return "?";
        }
    }
}
