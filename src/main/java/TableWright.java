/** A table in a document, as it is laid out. */
public final class TableWright {
    private static final int NONE = -1;

    private static final int NUMBER = 0;
    private static final int TEXT = 1;
    private static final int SUM = 2;
    private static final int DIFFERENCE = 3;
    private static final int PRODUCT = 4;

    private static final int MOST_COLUMNS = 6;
    private static final int MOST_ROWS = 30;
    // Every page bears at least one row or one note.
    private static final int MOST_PAGES = 2 * MOST_ROWS;

    private static final int MOST_TITLE = 12;
    private static final int MOST_WORD = 12;
    private static final int MOST_LENGTH = 200;
    private static final int MOST_NOTE = 5;
    private static final int MOST_VALUE = 9999;
    private static final int MOST_RESULT = 99999;
    private static final int MOST_BEST = 30;

    private static final int LEAST_PAPER = 10;
    private static final int MOST_PAPER = 60;
    private static final int HEAD_LINES = 3;

    private static final int DIGEST_START = 58119;
    private static final int DIGEST_FACTOR = 31;
    private static final int DIGEST_WIDE = 30;
    private static final int DIGEST_HIGH = 20;

    private final Sheet sheet = new Sheet();
    private final Setting setting = new Setting();
    private int wide = 40;
    private int high = 30;
    private boolean isStale = true;

    // What would be is tried in these, so that what is stays untouched.
    private final Sheet trialSheet = new Sheet();
    private final Setting trialSetting = new Setting();
    private final Layout probe = new Layout();

    public TableWright() {
    }

    // ---- the table

    public int column(boolean isText, int title) throws IllegalArgumentException, IllegalStateException {
        requireRange(title, 1, MOST_TITLE);
        requireSpareColumn();
        isStale = true;
        return sheet.addColumn(isText ? TEXT : NUMBER, title);
    }

    public int formula(int kind, int first, int second, int title)
            throws IndexOutOfBoundsException, IllegalArgumentException, IllegalStateException {
        requireColumn(first);
        requireColumn(second);
        requireRange(kind, SUM, PRODUCT);
        requireNoText(first);
        requireNoText(second);
        requireRange(title, 1, MOST_TITLE);
        requireSpareColumn();
        isStale = true;
        int column = sheet.addColumn(kind, title);
        sheet.firsts[column] = first;
        sheet.seconds[column] = second;
        return column;
    }

    public int row() throws IllegalStateException {
        if (sheet.rowCount >= MOST_ROWS) {
            throw new IllegalStateException("there are 30 rows");
        }
        isStale = true;
        return sheet.addRow();
    }

    public int cut(int row) throws IndexOutOfBoundsException {
        requireRow(row);
        isStale = true;
        sheet.removeRow(row);
        return sheet.rowCount;
    }

    public int number(int row, int column, int value) throws IndexOutOfBoundsException, IllegalArgumentException {
        requireNumberCell(row, column, value);
        isStale = true;
        int before = sheet.rows[row].values[column];
        sheet.rows[row].values[column] = value;
        return before;
    }

    public int text(int row, int column, int length, int word)
            throws IndexOutOfBoundsException, IllegalArgumentException {
        requireRow(row);
        requireColumn(column);
        requireKind(column, TEXT);
        requireRange(length, 0, MOST_LENGTH);
        requireRange(word, 0, Math.min(MOST_WORD, length));
        isStale = true;
        int before = sheet.rows[row].lengths[column];
        sheet.rows[row].lengths[column] = length;
        sheet.rows[row].words[column] = word;
        return before;
    }

    public boolean span(int row, int column, boolean isSpan)
            throws IndexOutOfBoundsException, IllegalArgumentException {
        requireRow(row);
        requireColumn(column);
        requireKind(column, TEXT);
        if (column + 1 >= sheet.columnCount) {
            throw new IllegalArgumentException("the last column cannot span");
        }
        isStale = true;
        sheet.rows[row].isToSpan[column] = isSpan;
        refresh();
        return sheet.rows[row].isHidden[column + 1];
    }

    public int note(int row, int lines) throws IndexOutOfBoundsException, IllegalArgumentException {
        requireRow(row);
        requireRange(lines, 0, MOST_NOTE);
        isStale = true;
        int before = sheet.rows[row].noteLines;
        sheet.rows[row].noteLines = lines;
        return before;
    }

    public boolean keep(int row, boolean isKept) throws IndexOutOfBoundsException {
        requireRow(row);
        isStale = true;
        boolean before = sheet.rows[row].isKept;
        sheet.rows[row].isKept = isKept;
        return before;
    }

    public int paper(int wide, int high) throws IllegalArgumentException {
        requireRange(wide, LEAST_PAPER, MOST_PAPER);
        requireRange(high, LEAST_PAPER, MOST_PAPER);
        isStale = true;
        this.wide = wide;
        this.high = high;
        refresh();
        return setting.chosen().pagesOrNone();
    }

    public int cell(int row, int column, int what) throws IndexOutOfBoundsException, IllegalArgumentException {
        requireRow(row);
        requireColumn(column);
        requireRange(what, 0, 3);
        refresh();
        return factOfCell(row, column, what);
    }

    // ---- the layout

    public int ofColumn(int column, int what) throws IndexOutOfBoundsException, IllegalArgumentException {
        requireColumn(column);
        requireRange(what, 0, 4);
        refresh();
        return factOfColumn(column, what);
    }

    public int ofRow(int row, int what) throws IndexOutOfBoundsException, IllegalArgumentException {
        requireRow(row);
        requireRange(what, 0, 2);
        refresh();
        return factOfRow(row, what);
    }

    public int ofPage(int page, int what) throws IndexOutOfBoundsException, IllegalArgumentException {
        refresh();
        requirePage(page);
        requireRange(what, 0, 4);
        return factOfPage(page, what);
    }

    public int carried(int page, int column) throws IndexOutOfBoundsException {
        refresh();
        requirePage(page);
        requireColumn(column);
        return setting.chosen().carriedOn(sheet, page, column);
    }

    public int many(int what) throws IllegalArgumentException {
        requireRange(what, 0, 7);
        refresh();
        return factOfTable(what);
    }

    public double meanLeft() {
        refresh();
        Layout layout = setting.chosen();
        if (layout.pageCount <= 0) {
            return 0;
        }
        int left = 0;
        for (int page = 0; page < layout.pageCount; page++) {
            left += layout.left[page];
        }
        return (double) left / layout.pageCount;
    }

    // ---- what would be (nothing is changed)

    public int pagesWith(int wide, int high, boolean isTurned) throws IllegalArgumentException {
        requireRange(wide, LEAST_PAPER, MOST_PAPER);
        requireRange(high, LEAST_PAPER, MOST_PAPER);
        refresh();
        return isTurned ? pagesIn(high, wide) : pagesIn(wide, high);
    }

    public int changedBy(int row, int column, int value) throws IndexOutOfBoundsException, IllegalArgumentException {
        requireNumberCell(row, column, value);
        refresh();
        Layout now = setting.chosen();
        trialSheet.copyFrom(sheet);
        trialSheet.rows[row].values[column] = value;
        Layout then = layoutOfTrial();
        int most = Math.max(now.pageCount, then.pageCount);
        int changed = 0;
        for (int page = 0; page < most; page++) {
            boolean isInBoth = page < now.pageCount && page < then.pageCount;
            if (!isInBoth || isPageOther(now, then, page)) {
                changed++;
            }
        }
        return changed;
    }

    public int pagesWithout(int row) throws IndexOutOfBoundsException {
        requireRow(row);
        trialSheet.copyFrom(sheet);
        trialSheet.removeRow(row);
        return layoutOfTrial().pagesOrNone();
    }

    public long digest() {
        refresh();
        long d = DIGEST_START;
        for (int what = 0; what <= 7; what++) {
            d = digestWith(d, factOfTable(what));
        }
        for (int column = 0; column < sheet.columnCount; column++) {
            for (int what = 0; what <= 4; what++) {
                d = digestWith(d, factOfColumn(column, what));
            }
        }
        for (int row = 0; row < sheet.rowCount; row++) {
            d = digestWithRow(d, row);
        }
        int pages = setting.chosen().pageCount;
        for (int page = 0; page < pages; page++) {
            d = digestWithPage(d, page);
        }
        d = digestWith(d, pagesIn(DIGEST_WIDE, DIGEST_HIGH));
        return digestWith(d, pagesIn(DIGEST_HIGH, DIGEST_WIDE));
    }

    // ---- what the calls require

    private static void requireRange(int number, int least, int most) {
        if (number < least || number > most) {
            throw new IllegalArgumentException("a number is not in its range");
        }
    }

    private void requireRow(int row) {
        if (row < 0 || row >= sheet.rowCount) {
            throw new IndexOutOfBoundsException("there is no such row");
        }
    }

    private void requireColumn(int column) {
        if (column < 0 || column >= sheet.columnCount) {
            throw new IndexOutOfBoundsException("there is no such column");
        }
    }

    private void requirePage(int page) {
        if (page < 0 || page >= setting.chosen().pageCount) {
            throw new IndexOutOfBoundsException("there is no such page");
        }
    }

    private void requireKind(int column, int kind) {
        if (sheet.kinds[column] != kind) {
            throw new IllegalArgumentException("the column is of another kind");
        }
    }

    private void requireNoText(int column) {
        if (sheet.kinds[column] == TEXT) {
            throw new IllegalArgumentException("a formula takes no texts");
        }
    }

    private void requireSpareColumn() {
        if (sheet.columnCount >= MOST_COLUMNS) {
            throw new IllegalStateException("there are 6 columns");
        }
    }

    private void requireNumberCell(int row, int column, int value) {
        requireRow(row);
        requireColumn(column);
        requireKind(column, NUMBER);
        requireRange(value, -MOST_VALUE, MOST_VALUE);
    }

    // ---- what is laid out

    /** The calls that ask do this first: what asks below them finds all laid out. */
    private void refresh() {
        if (isStale) {
            sheet.reckon();
            setting.arrange(sheet, wide, high);
            isStale = false;
        }
    }

    private Layout layoutOfTrial() {
        trialSheet.reckon();
        trialSetting.arrange(trialSheet, wide, high);
        return trialSetting.chosen();
    }

    private int pagesIn(int width, int lines) {
        probe.arrange(sheet, width, lines);
        return probe.pagesOrNone();
    }

    private boolean isPageOther(Layout now, Layout then, int page) {
        if (now.firstRows[page] != then.firstRows[page] || now.rowsOn[page] != then.rowsOn[page]) {
            return true;
        }
        for (int column = 0; column < sheet.columnCount; column++) {
            if (now.carriedOn(sheet, page, column) != then.carriedOn(trialSheet, page, column)) {
                return true;
            }
        }
        return false;
    }

    // ---- the facts that are asked for, by their numbers

    private int factOfTable(int what) {
        Layout layout = setting.chosen();
        switch (what) {
            case 0:
                return sheet.columnCount;
            case 1:
                return sheet.rowCount;
            case 2:
                return layout.pagesOrNone();
            case 3:
                return layout.isFit ? (setting.isTurned ? 1 : 0) : NONE;
            case 4:
                return layout.isFit ? layout.tableWidth(sheet) : NONE;
            case 5:
                return layout.isFit ? layout.heightOfRows(sheet) : NONE;
            case 6:
                return sheet.linesOfNotes();
            case 7:
                return layout.isFit ? layout.notesElsewhere(sheet) : NONE;
            default:
                return NONE;
        }
    }

    private int factOfColumn(int column, int what) {
        Layout layout = setting.chosen();
        switch (what) {
            case 0:
                return sheet.kinds[column];
            case 1:
                return sheet.leasts[column];
            case 2:
                return sheet.bests[column];
            case 3:
                return layout.isFit ? layout.widths[column] : NONE;
            case 4:
                return sheet.sumUpTo(sheet.rowCount - 1, column);
            default:
                return NONE;
        }
    }

    private int factOfRow(int row, int what) {
        Layout layout = setting.chosen();
        if (!layout.isFit) {
            return NONE;
        }
        switch (what) {
            case 0:
                return layout.heights[row];
            case 1:
                return layout.rowPages[row];
            case 2:
                return layout.notePages[row];
            default:
                return NONE;
        }
    }

    private int factOfCell(int row, int column, int what) {
        Layout layout = setting.chosen();
        Row cells = sheet.rows[row];
        switch (what) {
            case 0:
                return sheet.kinds[column] == TEXT ? cells.lengths[column] : cells.values[column];
            case 1:
                return layout.isFit ? layout.heightOfCell(sheet, row, column) : NONE;
            case 2:
                return cells.isHidden[column] ? 1 : 0;
            case 3:
                return sheet.sumUpTo(row, column);
            default:
                return NONE;
        }
    }

    private int factOfPage(int page, int what) {
        Layout layout = setting.chosen();
        switch (what) {
            case 0:
                return layout.firstRows[page];
            case 1:
                return layout.rowsOn[page];
            case 2:
                return layout.notesOn[page];
            case 3:
                return layout.left[page];
            case 4:
                return layout.readAloud(sheet, page);
            default:
                return NONE;
        }
    }

    // ---- the digest

    private static long digestWith(long d, int number) {
        return d * DIGEST_FACTOR + number;
    }

    private long digestWithRow(long d, int row) {
        long digest = d;
        for (int what = 0; what <= 2; what++) {
            digest = digestWith(digest, factOfRow(row, what));
        }
        for (int column = 0; column < sheet.columnCount; column++) {
            for (int what = 0; what <= 3; what++) {
                digest = digestWith(digest, factOfCell(row, column, what));
            }
        }
        return digest;
    }

    private long digestWithPage(long d, int page) {
        long digest = d;
        for (int what = 0; what <= 4; what++) {
            digest = digestWith(digest, factOfPage(page, what));
        }
        for (int column = 0; column < sheet.columnCount; column++) {
            digest = digestWith(digest, setting.chosen().carriedOn(sheet, page, column));
        }
        return digest;
    }

    /** A row: what is written in it, and what the sheet reckons of that. */
    private static final class Row {
        private final int[] values = new int[MOST_COLUMNS];
        private final int[] lengths = new int[MOST_COLUMNS];
        private final int[] words = new int[MOST_COLUMNS];
        private final boolean[] isToSpan = new boolean[MOST_COLUMNS];
        private int noteLines;
        private boolean isKept;

        // Reckoned, as are the values of formulas.
        private final int[] sums = new int[MOST_COLUMNS];
        private final boolean[] isHidden = new boolean[MOST_COLUMNS];

        void clear() {
            for (int column = 0; column < MOST_COLUMNS; column++) {
                values[column] = 0;
                lengths[column] = 0;
                words[column] = 0;
                isToSpan[column] = false;
            }
            noteLines = 0;
            isKept = false;
        }

        void copyFrom(Row other) {
            for (int column = 0; column < MOST_COLUMNS; column++) {
                values[column] = other.values[column];
                lengths[column] = other.lengths[column];
                words[column] = other.words[column];
                isToSpan[column] = other.isToSpan[column];
            }
            noteLines = other.noteLines;
            isKept = other.isKept;
        }
    }

    /** What is written in a table, and what follows from it on any paper. */
    private static final class Sheet {
        private int columnCount;
        private final int[] kinds = new int[MOST_COLUMNS];
        private final int[] titles = new int[MOST_COLUMNS];
        private final int[] firsts = new int[MOST_COLUMNS];
        private final int[] seconds = new int[MOST_COLUMNS];

        private int rowCount;
        private final Row[] rows = new Row[MOST_ROWS];

        private final int[] leasts = new int[MOST_COLUMNS];
        private final int[] bests = new int[MOST_COLUMNS];

        Sheet() {
            for (int row = 0; row < MOST_ROWS; row++) {
                rows[row] = new Row();
            }
        }

        int addColumn(int kind, int title) {
            int column = columnCount;
            kinds[column] = kind;
            titles[column] = title;
            columnCount++;
            return column;
        }

        int addRow() {
            rows[rowCount].clear();
            rowCount++;
            return rowCount - 1;
        }

        void removeRow(int row) {
            Row removed = rows[row];
            for (int behind = row + 1; behind < rowCount; behind++) {
                rows[behind - 1] = rows[behind];
            }
            rowCount--;
            // It is used again for a row that comes later.
            rows[rowCount] = removed;
        }

        void copyFrom(Sheet other) {
            columnCount = other.columnCount;
            for (int column = 0; column < columnCount; column++) {
                kinds[column] = other.kinds[column];
                titles[column] = other.titles[column];
                firsts[column] = other.firsts[column];
                seconds[column] = other.seconds[column];
            }
            rowCount = other.rowCount;
            for (int row = 0; row < rowCount; row++) {
                rows[row].copyFrom(other.rows[row]);
            }
        }

        int sumUpTo(int row, int column) {
            if (kinds[column] == TEXT) {
                return NONE;
            }
            return row < 0 ? 0 : rows[row].sums[column];
        }

        int linesOfNotes() {
            int lines = 0;
            for (int row = 0; row < rowCount; row++) {
                lines += rows[row].noteLines;
            }
            return lines;
        }

        boolean isSpanning(int row, int column) {
            return column + 1 < columnCount && rows[row].isHidden[column + 1];
        }

        void reckon() {
            for (int column = 0; column < columnCount; column++) {
                // A formula takes columns ahead of it alone, which are reckoned by now.
                if (kinds[column] == TEXT) {
                    reckonHidden(column);
                } else {
                    reckonNumbers(column);
                }
            }
            // A text's cells span or not as those of the next column are hidden.
            for (int column = 0; column < columnCount; column++) {
                if (kinds[column] == TEXT) {
                    measureText(column);
                } else {
                    measureNumbers(column);
                }
            }
        }

        private void reckonHidden(int column) {
            boolean isBehindText = column > 0 && kinds[column - 1] == TEXT;
            for (int row = 0; row < rowCount; row++) {
                Row cells = rows[row];
                cells.isHidden[column] = isBehindText && cells.isToSpan[column - 1] && !cells.isHidden[column - 1];
            }
        }

        private void reckonNumbers(int column) {
            int sum = 0;
            for (int row = 0; row < rowCount; row++) {
                Row cells = rows[row];
                if (kinds[column] != NUMBER) {
                    long first = cells.values[firsts[column]];
                    long second = cells.values[seconds[column]];
                    cells.values[column] = resultOf(kinds[column], first, second);
                }
                sum += cells.values[column];
                cells.sums[column] = sum;
            }
        }

        private static int resultOf(int kind, long first, long second) {
            long result;
            if (kind == SUM) {
                result = first + second;
            } else if (kind == DIFFERENCE) {
                result = first - second;
            } else {
                result = first * second;
            }
            return (int) Math.max(-MOST_RESULT, Math.min(MOST_RESULT, result));
        }

        private void measureText(int column) {
            int least = titles[column];
            int longest = 0;
            for (int row = 0; row < rowCount; row++) {
                if (!rows[row].isHidden[column] && !isSpanning(row, column)) {
                    least = Math.max(least, rows[row].words[column]);
                    longest = Math.max(longest, rows[row].lengths[column]);
                }
            }
            leasts[column] = least;
            bests[column] = Math.max(least, Math.min(MOST_BEST, longest));
        }

        private void measureNumbers(int column) {
            int least = titles[column];
            for (int row = 0; row < rowCount; row++) {
                least = Math.max(least, sizeOf(rows[row].values[column]));
                least = Math.max(least, sizeOf(rows[row].sums[column]));
            }
            leasts[column] = least;
            bests[column] = least;
        }

        private static int sizeOf(int number) {
            int size = number < 0 ? 2 : 1;
            for (int rest = number / 10; rest != 0; rest /= 10) {
                size++;
            }
            return size;
        }
    }

    /** A sheet on pages of one width and so many lines. */
    private static final class Layout {
        private boolean isFit;
        private int room;
        private final int[] widths = new int[MOST_COLUMNS];
        private final int[] heights = new int[MOST_ROWS];
        private final int[] rowPages = new int[MOST_ROWS];
        private final int[] notePages = new int[MOST_ROWS];

        private int pageCount;
        private final int[] firstRows = new int[MOST_PAGES];
        private final int[] rowsOn = new int[MOST_PAGES];
        private final int[] notesOn = new int[MOST_PAGES];
        private final int[] left = new int[MOST_PAGES];
        // The last row on the page or, if it has none, on one ahead.
        private final int[] lastRows = new int[MOST_PAGES];

        private int nextRow;
        // Notes are put in the order of their rows: this is the row of the one
        // that comes next. If it is ahead of nextRow, that note waits.
        private int nextNote;

        void arrange(Sheet sheet, int width, int lines) {
            room = lines - HEAD_LINES;
            isFit = isWidthFit(sheet, width) && areHeightsFit(sheet);
            pageCount = 0;
            nextRow = 0;
            nextNote = 0;
            while (isFit && pageCount < MOST_PAGES && (nextRow < sheet.rowCount || nextNote < nextRow)) {
                fillPage(sheet, pageCount);
                pageCount++;
            }
        }

        int pagesOrNone() {
            return isFit ? pageCount : NONE;
        }

        int tableWidth(Sheet sheet) {
            int width = sheet.columnCount - 1;
            for (int column = 0; column < sheet.columnCount; column++) {
                width += widths[column];
            }
            return width;
        }

        int heightOfRows(Sheet sheet) {
            int height = 0;
            for (int row = 0; row < sheet.rowCount; row++) {
                height += heights[row];
            }
            return height;
        }

        int notesElsewhere(Sheet sheet) {
            int notes = 0;
            for (int row = 0; row < sheet.rowCount; row++) {
                if (notePages[row] != NONE && notePages[row] != rowPages[row]) {
                    notes++;
                }
            }
            return notes;
        }

        int carriedOn(Sheet sheet, int page, int column) {
            return sheet.sumUpTo(lastRows[page], column);
        }

        int readAloud(Sheet sheet, int page) {
            int read = sheet.columnCount + notesOn[page];
            for (int column = 0; column < sheet.columnCount; column++) {
                if (page > 0 && sheet.kinds[column] != TEXT) {
                    read++;
                }
            }
            for (int row = 0; row < sheet.rowCount; row++) {
                if (rowPages[row] == page) {
                    read += shownCells(sheet, row);
                }
            }
            return read;
        }

        private static int shownCells(Sheet sheet, int row) {
            int shown = 0;
            for (int column = 0; column < sheet.columnCount; column++) {
                if (!sheet.rows[row].isHidden[column]) {
                    shown++;
                }
            }
            return shown;
        }

        int heightOfCell(Sheet sheet, int row, int column) {
            if (sheet.rows[row].isHidden[column]) {
                return 0;
            }
            if (sheet.kinds[column] != TEXT) {
                return 1;
            }
            int width = widths[column];
            if (sheet.isSpanning(row, column)) {
                width += 1 + widths[column + 1];
            }
            if (width <= 0) {
                return 1;
            }
            int length = sheet.rows[row].lengths[column];
            return Math.max(1, (length + width - 1) / width);
        }

        private boolean isWidthFit(Sheet sheet, int width) {
            if (sheet.columnCount == 0 || sheet.rowCount == 0) {
                return false;
            }
            for (int column = 0; column < sheet.columnCount; column++) {
                widths[column] = sheet.bests[column];
            }
            for (int excess = tableWidth(sheet) - width; excess > 0; excess--) {
                int column = mostSpareColumn(sheet);
                if (column == NONE) {
                    return false;
                }
                widths[column]--;
            }
            return true;
        }

        private int mostSpareColumn(Sheet sheet) {
            int most = 0;
            int found = NONE;
            for (int column = 0; column < sheet.columnCount; column++) {
                int spare = widths[column] - sheet.leasts[column];
                if (spare > most) {
                    most = spare;
                    found = column;
                }
            }
            return found;
        }

        private boolean areHeightsFit(Sheet sheet) {
            for (int row = 0; row < sheet.rowCount; row++) {
                int height = 0;
                for (int column = 0; column < sheet.columnCount; column++) {
                    height = Math.max(height, heightOfCell(sheet, row, column));
                }
                if (height > room) {
                    return false;
                }
                heights[row] = height;
            }
            return true;
        }

        private void fillPage(Sheet sheet, int page) {
            firstRows[page] = NONE;
            rowsOn[page] = 0;
            notesOn[page] = 0;
            left[page] = room;
            putWaitingNotes(sheet, page);
            while (nextRow < sheet.rowCount && hasRoomForNextRow(sheet, page)) {
                boolean isNoteWaiting = nextNote < nextRow;
                putNextRow(page);
                nextRow++;
                if (!isNoteWaiting) {
                    putWaitingNotes(sheet, page);
                }
            }
            lastRows[page] = nextRow - 1;
        }

        private void putWaitingNotes(Sheet sheet, int page) {
            while (nextNote < nextRow && sheet.rows[nextNote].noteLines <= left[page]) {
                int lines = sheet.rows[nextNote].noteLines;
                notePages[nextNote] = NONE;
                // A row without a note is passed over here: no lines always have room.
                if (lines > 0) {
                    notePages[nextNote] = page;
                    notesOn[page]++;
                    left[page] -= lines;
                }
                nextNote++;
            }
        }

        private boolean hasRoomForNextRow(Sheet sheet, int page) {
            if (heights[nextRow] > left[page]) {
                return false;
            }
            boolean isInsideGroup = nextRow > 0 && sheet.rows[nextRow - 1].isKept;
            if (rowsOn[page] == 0 || isInsideGroup) {
                return true;
            }
            int together = heightOfGroup(sheet, nextRow);
            return together <= left[page] || together > room;
        }

        private int heightOfGroup(Sheet sheet, int first) {
            int together = heights[first];
            for (int row = first + 1; row < sheet.rowCount && sheet.rows[row - 1].isKept; row++) {
                together += heights[row];
            }
            return together;
        }

        private void putNextRow(int page) {
            if (rowsOn[page] == 0) {
                firstRows[page] = nextRow;
            }
            rowPages[nextRow] = page;
            rowsOn[page]++;
            left[page] -= heights[nextRow];
        }
    }

    /** A sheet on paper, upright and turned, and which of these is taken. */
    private static final class Setting {
        private final Layout upright = new Layout();
        private final Layout turned = new Layout();
        private boolean isTurned;

        void arrange(Sheet sheet, int wide, int high) {
            upright.arrange(sheet, wide, high);
            turned.arrange(sheet, high, wide);
            boolean isUprightTaken = upright.isFit && (!turned.isFit || upright.pageCount <= turned.pageCount);
            isTurned = turned.isFit && !isUprightTaken;
        }

        /** If neither fits, the upright one: it is not fit then, and has no pages. */
        Layout chosen() {
            return isTurned ? turned : upright;
        }
    }
}
