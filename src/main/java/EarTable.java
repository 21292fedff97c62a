/**
 * A table for ears: walked by keys, each telling what is new since it told last and no more.
 * The document's words in capitals (LINE, CELL, VIEW, PLACE, ...) mean here what they mean there.
 *
 * <p>Every array is made in a constructor and used again, so that no call makes an object.
 */
public final class EarTable {
    /** There is none. */
    public static final int NONE = -1;

    private static final int NO_CELL = -1000000;
    private static final int TAPE_MOST = 1600;
    private static final int FEED_BYTES = 20;
    private static final int LINES_MOST = 30;
    private static final int LEVELS_MOST = 3;
    private static final int COLUMNS_MOST = 8;
    private static final int LETTERS_MOST = 10;
    private static final int DIGITS_MOST = 6;
    private static final int NUMBER_MOST = 999999;
    private static final int MOVES_MOST = 50;
    private static final int CHANGES_MOST = 40;
    private static final int MARKS_MOST = 5;
    private static final int KEYS_MOST = 11;

    // What a CELL holds, as cell() answers it.
    private static final int HOLE = 0;
    private static final int NUMBER = 1;
    private static final int NAME = 2;

    // What is told, as told() answers it.
    private static final int EDGE = 0;
    private static final int HEAD = 1;
    private static final int LINE = 2;
    private static final int CELL = 3;

    private final Tape tape;
    private final TableReader reader;
    private final Grid grid;
    private final View view;
    private final Steps steps;
    private final Ways ways;
    private final Speech speech;
    private final Trail trail;
    private final Changes changes;
    private final int[] markLines;
    private final int[] markColumns;
    private int placeLine;
    // Kept while the PLACE is nowhere, because the column stays when the VIEW changes.
    private int placeColumn;

    public EarTable() {
        tape = new Tape();
        reader = new TableReader(tape);
        grid = new Grid();
        view = new View(grid);
        steps = new Steps(grid, view);
        ways = new Ways(steps);
        speech = new Speech(grid);
        trail = new Trail();
        changes = new Changes(grid);
        markLines = new int[MARKS_MOST];
        markColumns = new int[MARKS_MOST];
        startAnew();
    }

    public int feed(int a, int b, int c, int d, int e) {
        if (tape.length > TAPE_MOST - FEED_BYTES) {
            return NONE;
        }
        tape.append(a);
        tape.append(b);
        tape.append(c);
        tape.append(d);
        tape.append(e);
        return tape.length;
    }

    public int end(int n) {
        if (n < 0 || n > tape.length) {
            return NONE;
        }
        tape.length = n;
        return n;
    }

    public int table() {
        if (!reader.readTape()) {
            return NONE;
        }
        grid.copy(reader.grid);
        tape.length = 0;
        startAnew();
        return grid.lines;
    }

    public int fault(int what) {
        switch (what) {
            case 0:
                return reader.faultKind;
            case 1:
                return reader.faultPlace;
            default:
                return NONE;
        }
    }

    public int cell(int line, int column, int what) {
        int spot = grid.spotOf(line, column);
        if (spot == NONE) {
            return NO_CELL;
        }
        switch (what) {
            case 0:
                return grid.kinds[spot];
            case 1:
                return spot % COLUMNS_MOST;
            case 2:
                return grid.widths[spot];
            case 3:
                return grid.lettersOf(spot);
            default:
                return NO_CELL;
        }
    }

    public int number(int line, int column) {
        int spot = grid.spotOf(line, column);
        return grid.isNumber(spot) ? (int) grid.contents[spot] : 0;
    }

    public int letter(int line, int column, int k) {
        int spot = grid.spotOf(line, column);
        if (spot == NONE || k < 0 || k >= grid.lettersOf(spot)) {
            return NONE;
        }
        return Names.letterOf(grid.contents[spot], k);
    }

    public int cut(int column, int what, int value) {
        if (!grid.hasColumn(column) || what < 0 || what > 2) {
            return NONE;
        }
        view.keepRows(column, what, value);
        return settleInView();
    }

    public int sort(int column, boolean up) {
        if (!grid.hasColumn(column)) {
            return NONE;
        }
        view.arrangeRows(column, up);
        return settleInView();
    }

    public int whole() {
        view.takeAll();
        return settleInView();
    }

    public int lineAt(int k) {
        return view.lineOf(k);
    }

    public int place(int what) {
        if (placeLine == NONE) {
            return NONE;
        }
        switch (what) {
            case 0:
                return placeLine;
            case 1:
                return placeColumn;
            default:
                return NONE;
        }
    }

    public int key(int key) {
        if (key < 0 || key >= KEYS_MOST) {
            return NONE;
        }
        int step = steps.stepOf(placeLine, placeColumn);
        int next = step == NONE ? NONE : steps.after(step, key);
        if (next == NONE) {
            return speech.tellEdge();
        }
        return moveTo(view.lineOf(next / COLUMNS_MOST), next % COLUMNS_MOST);
    }

    public int back() {
        if (!trail.takeLatest()) {
            return NONE;
        }
        return arriveAt(trail.takenLine, trail.takenColumn);
    }

    public int told(int k, int what) {
        if (k < 0 || k >= speech.count) {
            return NONE;
        }
        switch (what) {
            case 0:
                return speech.kinds[k];
            case 1:
                return speech.levels[k];
            case 2:
                return speech.wheres[k];
            default:
                return NONE;
        }
    }

    public boolean mark(int k) {
        if (k < 0 || k >= MARKS_MOST || placeLine == NONE) {
            return false;
        }
        markLines[k] = placeLine;
        markColumns[k] = placeColumn;
        return true;
    }

    public int go(int k) {
        if (k < 0 || k >= MARKS_MOST || view.positionOf(markLines[k]) == NONE) {
            return NONE;
        }
        if (markLines[k] == placeLine && markColumns[k] == placeColumn) {
            return speech.tellEdge();
        }
        return moveTo(markLines[k], markColumns[k]);
    }

    public int keys(int line, int column) {
        int goal = searchWaysTo(line, column);
        return goal == NONE ? NONE : ways.lengths[goal];
    }

    public int first(int line, int column) {
        int goal = searchWaysTo(line, column);
        return goal == NONE ? NONE : ways.openings[goal];
    }

    public int set(int line, int column, int number) {
        if (number < -NUMBER_MOST || number > NUMBER_MOST) {
            return NONE;
        }
        return changeCell(line, column, NUMBER, number);
    }

    public int clear(int line, int column) {
        return changeCell(line, column, HOLE, 0);
    }

    public boolean undo() {
        int spot = changes.takeBackLatest();
        if (spot == NONE) {
            return false;
        }
        tellIfPlaceIsOn(spot);
        return true;
    }

    public int quarrels() {
        int count = 0;
        for (int line = 0; line < grid.lines; line++) {
            for (int column = 0; column < grid.columns; column++) {
                if (grid.isQuarrel(line, column)) {
                    count++;
                }
            }
        }
        return count;
    }

    public int quarrel(int k) {
        int spot = grid.quarrelSpot(k);
        return spot == NONE ? NONE : 100 * (spot / COLUMNS_MOST) + spot % COLUMNS_MOST;
    }

    public long right(int k) {
        int spot = grid.quarrelSpot(k);
        return spot == NONE ? 0 : grid.sumAhead(spot / COLUMNS_MOST, spot % COLUMNS_MOST);
    }

    public int greatest(int column) {
        return grid.hasColumn(column) ? view.greatestLine(column) : NONE;
    }

    public int compare(int a, int b, int what) {
        if (!grid.hasColumn(a) || !grid.hasColumn(b) || what < 0 || what > 2) {
            return NONE;
        }
        return view.countCompared(a, b, what);
    }

    public int shape(int column) {
        return grid.hasColumn(column) ? view.shapeOf(column) : NONE;
    }

    public int about(int what) {
        switch (what) {
            case 0:
                return grid.columns;
            case 1:
                return grid.lines;
            case 2:
                return grid.levels;
            case 3:
                return view.size;
            case 4:
                return changes.count;
            case 5:
                return trail.count;
            case 6:
                return tape.length;
            case 7:
                return speech.count;
            default:
                return NONE;
        }
    }

    private void startAnew() {
        for (int k = 0; k < MARKS_MOST; k++) {
            markLines[k] = NONE;
            markColumns[k] = NONE;
        }
        changes.count = 0;
        speech.count = 0;
        placeLine = NONE;
        placeColumn = 0;
        view.takeAll();
        settleInView();
    }

    private int settleInView() {
        placeLine = view.lineAfterChange(placeLine);
        trail.count = 0;
        speech.forgetPlace();
        return view.size;
    }

    private int moveTo(int line, int column) {
        trail.add(placeLine, placeColumn);
        return arriveAt(line, column);
    }

    private int arriveAt(int line, int column) {
        placeLine = line;
        placeColumn = column;
        return speech.tellPlace(line, column);
    }

    private int searchWaysTo(int line, int column) {
        int start = steps.stepOf(placeLine, placeColumn);
        int goal = steps.stepOf(line, column);
        if (start == NONE || goal == NONE) {
            return NONE;
        }
        ways.search(start, goal);
        return goal;
    }

    private int changeCell(int line, int column, int kind, int number) {
        int spot = grid.lineSpotOf(line, column);
        if (spot == NONE || changes.count >= CHANGES_MOST) {
            return NONE;
        }
        changes.make(spot, kind, number);
        tellIfPlaceIsOn(spot);
        return changes.count;
    }

    private void tellIfPlaceIsOn(int spot) {
        if (grid.lineSpotOf(placeLine, placeColumn) == spot) {
            speech.tellCell(spot % COLUMNS_MOST);
        }
    }

    /** The bytes that were fed and are no table yet. */
    private static final class Tape {
        private final int[] bytes = new int[TAPE_MOST];
        private int length;

        void append(int number) {
            for (int shift = 24; shift >= 0 && length < TAPE_MOST; shift -= 8) {
                bytes[length] = (number >>> shift) & 255;
                length++;
            }
        }

        int byteAt(int place) {
            return place >= 0 && place < length ? bytes[place] : NONE;
        }
    }

    /**
     * NAMES as numbers: five bits a letter, the first letter highest, none as 0. So two NAMES are
     * alike, or one is ahead of the other, just as their numbers are.
     */
    private static final class Names {
        private static final int LETTER_BITS = 5;
        // Letters count from 1 on, because 0 is none.
        private static final long BEFORE_A = 'a' - 1;
        private static final long HEAD_WORD = ('h' - BEFORE_A) << 45 | ('e' - BEFORE_A) << 40
                | ('a' - BEFORE_A) << 35 | ('d' - BEFORE_A) << 30;
        private static final long ROW_WORD = ('r' - BEFORE_A) << 45 | ('o' - BEFORE_A) << 40
                | ('w' - BEFORE_A) << 35;
        private static final long SUM_WORD = ('s' - BEFORE_A) << 45 | ('u' - BEFORE_A) << 40
                | ('m' - BEFORE_A) << 35;

        static int letterOf(long name, int k) {
            return (int) (BEFORE_A + numberOf(name, k));
        }

        static long withLetter(long name, int k, int letter) {
            return name | (letter - BEFORE_A) << (LETTER_BITS * (LETTERS_MOST - 1 - k));
        }

        static int lengthOf(long name) {
            int length = 0;
            while (length < LETTERS_MOST && numberOf(name, length) != 0) {
                length++;
            }
            return length;
        }

        private static long numberOf(long name, int k) {
            return name >>> (LETTER_BITS * (LETTERS_MOST - 1 - k)) & 31;
        }
    }

    /**
     * The CELLS. A spot is a CELL's own index in the arrays: that of its first column in the stripe
     * of its LINE; the stripes of HEADS stand behind those of all LINES.
     */
    private static final class Grid {
        private static final int SPOTS = (LINES_MOST + LEVELS_MOST) * COLUMNS_MOST;

        private final int[] firstColumns = new int[SPOTS];
        private final int[] widths = new int[SPOTS];
        private final int[] kinds = new int[SPOTS];
        private final long[] contents = new long[SPOTS];
        private final boolean[] sums = new boolean[LINES_MOST];
        private int columns;
        private int lines;
        private int levels;

        void copy(Grid other) {
            System.arraycopy(other.firstColumns, 0, firstColumns, 0, SPOTS);
            System.arraycopy(other.widths, 0, widths, 0, SPOTS);
            System.arraycopy(other.kinds, 0, kinds, 0, SPOTS);
            System.arraycopy(other.contents, 0, contents, 0, SPOTS);
            for (int line = 0; line < LINES_MOST; line++) {
                sums[line] = other.sums[line];
            }
            columns = other.columns;
            lines = other.lines;
            levels = other.levels;
        }

        boolean hasColumn(int column) {
            return column >= 0 && column < columns;
        }

        /** The spot of the CELL of a LINE, or of a level of HEADS (-1 .. -3), and a column. */
        int spotOf(int line, int column) {
            if (column < 0 || column >= columns || line >= lines || line < -levels) {
                return NONE;
            }
            int stripe = line >= 0 ? line : LINES_MOST - 1 - line;
            int start = stripe * COLUMNS_MOST;
            return start + firstColumns[start + column];
        }

        /** The same for a LINE alone: NONE as a line is no level here. */
        int lineSpotOf(int line, int column) {
            return line < 0 ? NONE : spotOf(line, column);
        }

        boolean isNumber(int spot) {
            return spot >= 0 && spot < SPOTS && kinds[spot] == NUMBER;
        }

        boolean isRow(int line) {
            return line >= 0 && line < lines && !sums[line];
        }

        int lettersOf(int spot) {
            return kinds[spot] == NAME ? Names.lengthOf(contents[spot]) : 0;
        }

        boolean areAlike(int one, int other) {
            return kinds[one] == kinds[other] && contents[one] == contents[other];
        }

        /** Below 0 if the first is ahead when sorted, 0 if they are alike there. */
        int compareSorted(int one, int other, boolean up) {
            if (kinds[one] == HOLE || kinds[other] == HOLE) {
                return (kinds[one] == HOLE ? 1 : 0) - (kinds[other] == HOLE ? 1 : 0);
            }
            int upwards = kinds[one] != kinds[other]
                    ? Integer.compare(kinds[one], kinds[other])
                    : Long.compare(contents[one], contents[other]);
            return up ? upwards : -upwards;
        }

        boolean isQuarrel(int line, int column) {
            if (line < 0 || line >= lines || !sums[line]) {
                return false;
            }
            int spot = spotOf(line, column);
            return isNarrowNumber(spot) && contents[spot] != sumAhead(line, column);
        }

        /** What the rows ahead of a LINE, up to the sum ahead of it, sum up to. */
        long sumAhead(int line, int column) {
            long sum = 0;
            for (int row = line - 1; row >= 0 && isRow(row); row--) {
                int spot = spotOf(row, column);
                if (isNarrowNumber(spot)) {
                    sum += contents[spot];
                }
            }
            return sum;
        }

        int quarrelSpot(int k) {
            int left = k;
            for (int line = 0; line < lines && left >= 0; line++) {
                for (int column = 0; column < columns; column++) {
                    if (!isQuarrel(line, column)) {
                        continue;
                    }
                    if (left == 0) {
                        return spotOf(line, column);
                    }
                    left--;
                }
            }
            return NONE;
        }

        private boolean isNarrowNumber(int spot) {
            return isNumber(spot) && widths[spot] == 1;
        }
    }

    /** Takes the TAPE apart, a TOKEN at a time. */
    private static final class Scanner {
        private static final int END = 0;
        private static final int NO_TOKEN = 1;
        private static final int HEAD_WORD = 2;
        private static final int ROW_WORD = 3;
        private static final int SUM_WORD = 4;
        private static final int NAME_WORD = 5;
        private static final int DIGITS = 6;
        private static final int DASH = 7;
        private static final int STAR = 8;
        private static final int SEMICOLON = 9;

        private final Tape tape;
        private int kind;
        private int place;
        private int behind;
        private long content;

        Scanner(Tape tape) {
            this.tape = tape;
        }

        void restart() {
            behind = 0;
            advance();
        }

        void advance() {
            place = behind;
            while (place < tape.length && isBlank(tape.byteAt(place))) {
                place++;
            }
            int sign = tape.byteAt(place);
            content = 0;
            if (isLetter(sign)) {
                readWord();
            } else if (isDigit(sign)) {
                readDigits(place, 1);
            } else if (sign == '-' && isDigit(tape.byteAt(place + 1))) {
                readDigits(place + 1, -1);
            } else {
                kind = kindOfSign(sign);
                behind = place + (kind == END ? 0 : 1);
            }
        }

        boolean isAtCell() {
            return kind == NAME_WORD || kind == DIGITS || kind == DASH;
        }

        int kindOfContent() {
            if (kind == DIGITS) {
                return NUMBER;
            }
            return kind == NAME_WORD ? NAME : HOLE;
        }

        private void readWord() {
            behind = place;
            while (behind < tape.length && isLetter(tape.byteAt(behind))) {
                if (behind - place < LETTERS_MOST) {
                    content = Names.withLetter(content, behind - place, tape.byteAt(behind));
                }
                behind++;
            }
            kind = behind - place > LETTERS_MOST ? NO_TOKEN : kindOfWord(content);
        }

        private void readDigits(int start, int sign) {
            behind = start;
            while (behind < tape.length && isDigit(tape.byteAt(behind))) {
                if (behind - start < DIGITS_MOST) {
                    content = content * 10 + sign * (tape.byteAt(behind) - '0');
                }
                behind++;
            }
            boolean tooLong = behind - start > DIGITS_MOST;
            kind = tooLong || isLetter(tape.byteAt(behind)) ? NO_TOKEN : DIGITS;
        }

        private static int kindOfWord(long word) {
            if (word == Names.HEAD_WORD) {
                return HEAD_WORD;
            }
            if (word == Names.ROW_WORD) {
                return ROW_WORD;
            }
            return word == Names.SUM_WORD ? SUM_WORD : NAME_WORD;
        }

        private static int kindOfSign(int sign) {
            switch (sign) {
                case NONE:
                    return END;
                case '-':
                    return DASH;
                case '*':
                    return STAR;
                case ';':
                    return SEMICOLON;
                default:
                    return NO_TOKEN;
            }
        }

        private static boolean isBlank(int sign) {
            return sign == ' ' || sign == '\n';
        }

        private static boolean isLetter(int sign) {
            return sign >= 'a' && sign <= 'z';
        }

        private static boolean isDigit(int sign) {
            return sign >= '0' && sign <= '9';
        }
    }

    /** Reads the TAPE into a grid of its own, so that the table stays if there is a FAULT. */
    private static final class TableReader {
        private static final int NO_TOKEN_FAULT = 1;
        private static final int TOKEN_FAULT = 2;
        private static final int WIDTH_FAULT = 3;
        private static final int TOO_WIDE_FAULT = 4;
        private static final int TOO_NARROW_FAULT = 5;

        private final Scanner scanner;
        private final Grid grid;
        private int faultKind;
        private int faultPlace;

        TableReader(Tape tape) {
            scanner = new Scanner(tape);
            grid = new Grid();
            faultKind = 0;
            faultPlace = NONE;
        }

        boolean readTape() {
            faultKind = 0;
            faultPlace = NONE;
            grid.columns = 0;
            grid.lines = 0;
            grid.levels = 0;
            scanner.restart();
            for (int k = 0; k < LINES_MOST + LEVELS_MOST && scanner.kind != Scanner.END; k++) {
                if (!readLine()) {
                    return false;
                }
            }
            return scanner.kind == Scanner.END || refuseToken();
        }

        private boolean readLine() {
            int stripe = stripeOfNewLine();
            if (stripe == NONE) {
                return refuseToken();
            }
            if (stripe < LINES_MOST) {
                grid.sums[stripe] = scanner.kind == Scanner.SUM_WORD;
            }
            scanner.advance();
            int column = 0;
            for (int k = 0; k <= COLUMNS_MOST && scanner.isAtCell(); k++) {
                int width = readCell(stripe, column);
                if (width == NONE) {
                    return false;
                }
                column += width;
            }
            return endLine(stripe, column);
        }

        private int stripeOfNewLine() {
            switch (scanner.kind) {
                case Scanner.HEAD_WORD:
                    return grid.lines == 0 && grid.levels < LEVELS_MOST
                            ? LINES_MOST + grid.levels : NONE;
                case Scanner.ROW_WORD:
                case Scanner.SUM_WORD:
                    return grid.lines < LINES_MOST ? grid.lines : NONE;
                default:
                    return NONE;
            }
        }

        /** Over how many columns the CELL is; NONE if there is a FAULT. */
        private int readCell(int stripe, int column) {
            int start = scanner.place;
            int room = columnsAtMost() - column;
            // Ahead of what is behind the *, because this FAULT's place is ahead of it too.
            if (room < 1) {
                refuse(TOO_WIDE_FAULT, start);
                return NONE;
            }
            int spot = stripe * COLUMNS_MOST + column;
            grid.kinds[spot] = scanner.kindOfContent();
            grid.contents[spot] = scanner.content;
            int width = 1;
            scanner.advance();
            if (scanner.kind == Scanner.STAR) {
                scanner.advance();
                if (!isAtWidth()) {
                    return NONE;
                }
                width = (int) scanner.content;
                scanner.advance();
            }
            if (width > room) {
                refuse(TOO_WIDE_FAULT, start);
                return NONE;
            }
            spreadCell(spot, width);
            return width;
        }

        private boolean isAtWidth() {
            if (scanner.kind != Scanner.DIGITS) {
                return refuseToken();
            }
            if (scanner.content < 1 || scanner.content > COLUMNS_MOST) {
                return refuse(WIDTH_FAULT, scanner.place);
            }
            return true;
        }

        private void spreadCell(int spot, int width) {
            grid.widths[spot] = width;
            for (int k = 0; k < width; k++) {
                grid.firstColumns[spot + k] = spot % COLUMNS_MOST;
            }
        }

        private boolean endLine(int stripe, int column) {
            if (scanner.kind != Scanner.SEMICOLON || column == 0) {
                return refuseToken();
            }
            if (column < grid.columns) {
                return refuse(TOO_NARROW_FAULT, scanner.place);
            }
            grid.columns = column;
            if (stripe < LINES_MOST) {
                grid.lines++;
            } else {
                grid.levels++;
            }
            scanner.advance();
            return true;
        }

        /** Every line is over a column at least, so none told yet means: this is the first line. */
        private int columnsAtMost() {
            return grid.columns == 0 ? COLUMNS_MOST : grid.columns;
        }

        private boolean refuseToken() {
            boolean isToken = scanner.kind != Scanner.NO_TOKEN;
            return refuse(isToken ? TOKEN_FAULT : NO_TOKEN_FAULT, scanner.place);
        }

        private boolean refuse(int kind, int place) {
            faultKind = kind;
            faultPlace = place;
            return false;
        }
    }

    /** Some LINES in an order, and what is asked about them. */
    private static final class View {
        private final Grid grid;
        private final int[] order = new int[LINES_MOST];
        private final int[] orderBefore = new int[LINES_MOST];
        private int size;
        private int sizeBefore;

        View(Grid grid) {
            this.grid = grid;
        }

        int lineOf(int k) {
            return k >= 0 && k < size ? order[k] : NONE;
        }

        int positionOf(int line) {
            for (int k = 0; k < size; k++) {
                if (order[k] == line) {
                    return k;
                }
            }
            return NONE;
        }

        void takeAll() {
            keepOrder();
            size = grid.lines;
            for (int k = 0; k < size; k++) {
                order[k] = k;
            }
        }

        void keepRows(int column, int what, int value) {
            keepOrder();
            size = 0;
            for (int k = 0; k < sizeBefore; k++) {
                int line = orderBefore[k];
                int spot = grid.spotOf(line, column);
                if (grid.isRow(line) && grid.isNumber(spot)
                        && sideOf(grid.contents[spot], value) == what) {
                    order[size] = line;
                    size++;
                }
            }
        }

        void arrangeRows(int column, boolean up) {
            keepOrder();
            size = 0;
            for (int k = 0; k < sizeBefore; k++) {
                if (grid.isRow(orderBefore[k])) {
                    insertRow(orderBefore[k], column, up);
                }
            }
        }

        /** Where the PLACE is now that was on a LINE of the VIEW as it was before. */
        int lineAfterChange(int line) {
            if (line == NONE) {
                return lineOf(0);
            }
            int start = 0;
            while (start < sizeBefore && orderBefore[start] != line) {
                start++;
            }
            for (int k = start; k < sizeBefore; k++) {
                if (positionOf(orderBefore[k]) != NONE) {
                    return orderBefore[k];
                }
            }
            for (int k = start - 1; k >= 0; k--) {
                if (positionOf(orderBefore[k]) != NONE) {
                    return orderBefore[k];
                }
            }
            return NONE;
        }

        int greatestLine(int column) {
            int line = NONE;
            long greatest = 0;
            for (int k = 0; k < size; k++) {
                int spot = grid.spotOf(order[k], column);
                if (grid.isNumber(spot) && (line == NONE || grid.contents[spot] > greatest)) {
                    line = order[k];
                    greatest = grid.contents[spot];
                }
            }
            return line;
        }

        int countCompared(int a, int b, int what) {
            int count = 0;
            for (int k = 0; k < size; k++) {
                int one = grid.spotOf(order[k], a);
                int other = grid.spotOf(order[k], b);
                if (grid.isNumber(one) && grid.isNumber(other)
                        && sideOf(grid.contents[one], grid.contents[other]) == what) {
                    count++;
                }
            }
            return count;
        }

        int shapeOf(int column) {
            int count = 0;
            long latest = 0;
            boolean rose = false;
            boolean fell = false;
            boolean roseAfterFall = false;
            boolean fellAfterRise = false;
            for (int k = 0; k < size; k++) {
                int spot = grid.spotOf(order[k], column);
                if (!grid.isNumber(spot)) {
                    continue;
                }
                boolean rises = count > 0 && grid.contents[spot] > latest;
                boolean falls = count > 0 && grid.contents[spot] < latest;
                roseAfterFall |= rises && fell;
                fellAfterRise |= falls && rose;
                rose |= rises;
                fell |= falls;
                latest = grid.contents[spot];
                count++;
            }
            if (count < 2) {
                return 0;
            }
            if (!rose || !fell) {
                return rose ? 2 : fell ? 3 : 1;
            }
            return !roseAfterFall ? 4 : !fellAfterRise ? 5 : 6;
        }

        private void keepOrder() {
            System.arraycopy(order, 0, orderBefore, 0, LINES_MOST);
            sizeBefore = size;
        }

        /** Behind all that are ahead of it or like it, so that like ones stay in order. */
        private void insertRow(int line, int column, boolean up) {
            int k = size;
            int spot = grid.spotOf(line, column);
            while (k > 0 && grid.compareSorted(spot, grid.spotOf(order[k - 1], column), up) < 0) {
                order[k] = order[k - 1];
                k--;
            }
            order[k] = line;
            size++;
        }

        /** 0 below, 1 the same, 2 above. */
        private static int sideOf(long one, long other) {
            return one < other ? 0 : one == other ? 1 : 2;
        }
    }

    /**
     * Where KEYS lead. A step is a LINE's position in the VIEW and a column as one number:
     * position * COLUMNS_MOST + column.
     */
    private static final class Steps {
        private final Grid grid;
        private final View view;

        Steps(Grid grid, View view) {
            this.grid = grid;
            this.view = view;
        }

        int stepOf(int line, int column) {
            return stepAt(view.positionOf(line), column);
        }

        /** The step that a key leads to; NONE at the EDGE. */
        int after(int step, int key) {
            int k = step / COLUMNS_MOST;
            int column = step % COLUMNS_MOST;
            int spot = grid.lineSpotOf(view.lineOf(k), column);
            if (spot == NONE) {
                return NONE;
            }
            int next;
            if (key == 2 || key == 3 || key >= 6 && key <= 9) {
                next = stepAt(positionAfter(k, column, key), column);
            } else {
                next = stepAt(k, columnAfter(spot, column, key));
            }
            return next == step ? NONE : next;
        }

        private int stepAt(int k, int column) {
            boolean isThere = k >= 0 && k < view.size && grid.hasColumn(column);
            return isThere ? k * COLUMNS_MOST + column : NONE;
        }

        private int positionAfter(int k, int column, int key) {
            switch (key) {
                case 2:
                    return k - 1;
                case 3:
                    return k + 1;
                case 6:
                    return 0;
                case 7:
                    return view.size - 1;
                case 8:
                    return positionBehind(k, column, false);
                case 9:
                    return positionBehind(k, column, true);
                default:
                    return NONE;
            }
        }

        private int columnAfter(int spot, int column, int key) {
            int line = spot / COLUMNS_MOST;
            int start = spot % COLUMNS_MOST;
            switch (key) {
                case 0:
                    return firstColumnOf(line, start - 1);
                case 1:
                    return start + grid.widths[spot];
                case 4:
                    return 0;
                case 5:
                    return firstColumnOf(line, grid.columns - 1);
                case 10:
                    return columnOfNextHead(column);
                default:
                    return NONE;
            }
        }

        private int positionBehind(int k, int column, boolean alike) {
            int spot = grid.spotOf(view.order[k], column);
            for (int next = k + 1; next < view.size; next++) {
                int other = grid.spotOf(view.order[next], column);
                if (grid.areAlike(spot, other) == alike) {
                    return next;
                }
            }
            return NONE;
        }

        private int firstColumnOf(int line, int column) {
            int spot = grid.spotOf(line, column);
            return spot == NONE ? NONE : spot % COLUMNS_MOST;
        }

        private int columnOfNextHead(int column) {
            int head = grid.spotOf(-1, column);
            return head == NONE ? NONE : head % COLUMNS_MOST + grid.widths[head];
        }
    }

    /** The fewest keys from one step to another. */
    private static final class Ways {
        private static final int STEPS_MOST = LINES_MOST * COLUMNS_MOST;

        private final Steps steps;
        private final int[] queue = new int[STEPS_MOST];
        private final int[] lengths = new int[STEPS_MOST];
        private final int[] openings = new int[STEPS_MOST];
        private int queued;

        Ways(Steps steps) {
            this.steps = steps;
        }

        /**
         * Tells the length and the first key of the best way to the goal. Keys are tried from the
         * least on and steps wait in the order they were found, so those of one length stand by
         * their first keys, and the first way found to a step is the one with the least.
         */
        void search(int start, int goal) {
            for (int step = 0; step < STEPS_MOST; step++) {
                lengths[step] = NONE;
                openings[step] = NONE;
            }
            queued = 0;
            reach(start, 0, NONE);
            for (int k = 0; k < STEPS_MOST && k < queued && lengths[goal] == NONE; k++) {
                int step = queue[k];
                for (int key = 0; key < KEYS_MOST; key++) {
                    int opening = step == start ? key : openings[step];
                    reach(steps.after(step, key), lengths[step] + 1, opening);
                }
            }
        }

        private void reach(int step, int length, int opening) {
            if (step == NONE || lengths[step] != NONE || queued >= STEPS_MOST) {
                return;
            }
            lengths[step] = length;
            openings[step] = opening;
            queue[queued] = step;
            queued++;
        }
    }

    /** What was told, and the PLACE that what is new is measured by. */
    private static final class Speech {
        // All levels of HEADS, the LINE and the CELL.
        private static final int TOLD_MOST = LEVELS_MOST + 2;

        private final Grid grid;
        private final int[] kinds = new int[TOLD_MOST];
        private final int[] levels = new int[TOLD_MOST];
        private final int[] wheres = new int[TOLD_MOST];
        private int count;
        private int lastLine;
        private int lastColumn;

        Speech(Grid grid) {
            this.grid = grid;
        }

        void forgetPlace() {
            lastLine = NONE;
            lastColumn = NONE;
        }

        int tellEdge() {
            count = 0;
            add(EDGE, NONE, NONE);
            return count;
        }

        void tellCell(int firstColumn) {
            count = 0;
            add(CELL, NONE, firstColumn);
        }

        int tellPlace(int line, int column) {
            count = 0;
            for (int level = 0; level < grid.levels; level++) {
                int head = grid.spotOf(-1 - level, column);
                // A last column of NONE has no HEAD, so that all are told then.
                if (head != grid.spotOf(-1 - level, lastColumn)) {
                    add(HEAD, level, head % COLUMNS_MOST);
                }
            }
            if (line != lastLine) {
                add(LINE, NONE, line);
            }
            add(CELL, NONE, grid.spotOf(line, column) % COLUMNS_MOST);
            lastLine = line;
            lastColumn = column;
            return count;
        }

        private void add(int kind, int level, int where) {
            if (count >= TOLD_MOST) {
                return;
            }
            kinds[count] = kind;
            levels[count] = level;
            wheres[count] = where;
            count++;
        }
    }

    /** The PLACES ahead of the latest moves. */
    private static final class Trail {
        private final int[] lines = new int[MOVES_MOST];
        private final int[] columns = new int[MOVES_MOST];
        private int count;
        private int takenLine;
        private int takenColumn;

        void add(int line, int column) {
            if (count >= MOVES_MOST) {
                System.arraycopy(lines, 1, lines, 0, MOVES_MOST - 1);
                System.arraycopy(columns, 1, columns, 0, MOVES_MOST - 1);
                count = MOVES_MOST - 1;
            }
            lines[count] = line;
            columns[count] = column;
            count++;
        }

        boolean takeLatest() {
            if (count <= 0) {
                return false;
            }
            count--;
            takenLine = lines[count];
            takenColumn = columns[count];
            return true;
        }
    }

    /** What the CELLS that were changed by hand held before. */
    private static final class Changes {
        private final Grid grid;
        private final int[] spots = new int[CHANGES_MOST];
        private final int[] kinds = new int[CHANGES_MOST];
        private final long[] contents = new long[CHANGES_MOST];
        private int count;

        Changes(Grid grid) {
            this.grid = grid;
        }

        void make(int spot, int kind, int number) {
            if (count >= CHANGES_MOST) {
                return;
            }
            spots[count] = spot;
            kinds[count] = grid.kinds[spot];
            contents[count] = grid.contents[spot];
            count++;
            grid.kinds[spot] = kind;
            grid.contents[spot] = number;
        }

        /** The spot of the CELL that holds again what it held; NONE if no CHANGE stands. */
        int takeBackLatest() {
            if (count <= 0) {
                return NONE;
            }
            count--;
            int spot = spots[count];
            grid.kinds[spot] = kinds[count];
            grid.contents[spot] = contents[count];
            return spot;
        }
    }
}
