import java.io.IOException;
import java.nio.file.Files;
import java.nio.file.Path;
import java.util.ArrayList;
import java.util.Arrays;
import java.util.List;
import java.util.regex.Matcher;
import java.util.regex.Pattern;

/**
 * The document from its first line to its last: each sentence that has no test in EdgeTests or
 * LimitTests has one here, under its own words. It fails if words of the document are left that
 * have no test, so a sentence that comes to the document needs one.
 */
public final class ReadingTests extends Checks {
    private static final int PROMISES = 22;
    private static final int NOT_PROMISED = PROMISES + 1;

    // The document's words: 0 those ahead of the promises, then those of each promise, at last those behind.
    private static final StringBuilder[] WORDS = new StringBuilder[NOT_PROMISED + 1];
    private static final boolean[][] IS_TESTED = new boolean[NOT_PROMISED + 1][];
    private static final List<String> FACE = new ArrayList<>();
    private static final List<String> SIGNATURES = new ArrayList<>();

    public static void main(String[] args) throws IOException {
        readDocument(Path.of(args[0]));
        readEdgeTests(Files.readString(Path.of(args[2])));
        whatNoCallShows();
        face();
        interfaceSays(Files.readString(Path.of(args[1])));
        terms();
        rulesForAllCalls();
        whatIsWritten();
        whatIsAsked();
        whatWouldBe();
        digest();
        nothingIsLeft();
        finish("ReadingTests");
    }

    // ---- the document's words, and which of them have a test

    private static void readDocument(Path path) throws IOException {
        for (int section = 0; section <= NOT_PROMISED; section++) {
            WORDS[section] = new StringBuilder();
        }
        int section = 0;
        boolean isFace = false;
        for (String line : Files.readAllLines(path)) {
            section = sectionAt(line, section);
            if (line.startsWith("```")) {
                isFace = line.equals("```java");
            } else if (isFace) {
                FACE.add(line.strip());
            } else if (!line.isBlank() && !line.startsWith("#") && !line.startsWith("Throws `")) {
                // LimitTests fails if a line that begins with Throws has no test.
                WORDS[section].append(' ').append(wordsOf(line.strip()));
            }
        }
        for (int at = 0; at <= NOT_PROMISED; at++) {
            IS_TESTED[at] = new boolean[WORDS[at].length()];
        }
    }

    private static int sectionAt(String line, int section) {
        Matcher promise = Pattern.compile("## Promise (\\d+):.*").matcher(line);
        if (promise.matches()) {
            due("the number of the promise", section + 1, Integer.parseInt(promise.group(1)));
            return section + 1;
        }
        return line.equals("## Not promised") ? NOT_PROMISED : section;
    }

    /** A line without the number of its term, and without its signature, which is kept. */
    private static String wordsOf(String line) {
        Matcher signature = Pattern.compile("^`([^`]*\\)[^`]*)`: ").matcher(line);
        if (signature.find()) {
            SIGNATURES.add(signature.group(1));
            return line.substring(signature.end());
        }
        return line.replaceFirst("^[1-4] ", "");
    }

    private static void readEdgeTests(String source) {
        part = "the sentences of EdgeTests";
        Matcher quoted = Pattern.compile("sentence\\(\"([^\"]*)\"\\)").matcher(source);
        int found = 0;
        while (quoted.find()) {
            for (int section = 0; section <= NOT_PROMISED; section++) {
                found += mark(section, quoted.group(1));
            }
        }
        due("whether they were found", true, found > 50);
    }

    /** Tells how often the words stand there. */
    private static int mark(int section, String words) {
        int found = 0;
        for (int at = WORDS[section].indexOf(words); at >= 0; at = WORDS[section].indexOf(words, at + 1)) {
            Arrays.fill(IS_TESTED[section], at, at + words.length(), true);
            found++;
        }
        return found;
    }

    /** What follows is of these words, which must stand in that promise, or, of 0, ahead of all. */
    private static void sentence(int promise, String words) {
        part = (promise > 0 ? "promise " + promise + ", " : "") + words;
        due("whether the document says so", true, mark(promise, words) > 0);
    }

    private static void nothingIsLeft() {
        for (int section = 0; section <= NOT_PROMISED; section++) {
            part = "the words of " + (section > 0 ? "promise " + section : "the terms");
            StringBuilder left = new StringBuilder();
            for (int at = 0; at < WORDS[section].length(); at++) {
                left.append(IS_TESTED[section][at] ? ' ' : WORDS[section].charAt(at));
            }
            due("what has no test", "", left.toString().replaceAll("[\\s-]+", " ").strip());
        }
    }

    private static void whatNoCallShows() {
        sentence(0, "A table in a document, as it is laid out.");
        sentence(0, "what later calls answer is free.");
        sentence(NOT_PROMISED, "How the state is held inside the object is free, as are the speed of each call, the text of"
                + " toString and the behaviour of equals and hashCode. Use of one object from several threads at once is not"
                + " promised to be safe. Nothing is promised beyond the answers and state changes described above, and"
                + " nothing about an object after its 512th call.");
    }

    // ---- the public face

    private static void face() {
        part = "the public face and the promises";
        List<String> faces = new ArrayList<>();
        for (String line : FACE) {
            if (line.endsWith(";")) {
                faces.add(line.substring("public ".length(), line.length() - 1));
            }
        }
        due("the promises' signatures", faces, SIGNATURES);
        due("how many", PROMISES, SIGNATURES.size());
    }

    /** The class has these headings where the document says, and its calls in the document's order. */
    private static void interfaceSays(String source) {
        List<String> want = new ArrayList<>();
        Matcher says = Pattern.compile("Ahead of the calls ([^:]*) the interface says: (---- [^.]*)\\.").matcher(WORDS[0]);
        while (says.find()) {
            sentence(0, says.group());
            want.add(says.group(2));
            Matcher call = Pattern.compile("`(\\w+)`").matcher(says.group(1));
            while (call.find()) {
                want.add(call.group(1));
            }
        }
        part = "what the interface says";
        due("headings and calls", 3 + PROMISES - 1, want.size());
        List<String> got = new ArrayList<>();
        Matcher told = Pattern.compile("// (---- .*)|public \\w+ (\\w+)\\(").matcher(source);
        while (got.size() < want.size() && told.find()) {
            got.add(told.group(1) != null ? told.group(1) : told.group(2));
        }
        due("headings and calls, in their order", want, got);
    }

    // ---- a table of which all is reckoned by hand

    // On paper 40 wide and 10 high: 30 + 26 + 3 + 3 and 3 between are 25 too wide, so the texts,
    // which both spare 21, become 17 and 14; each page has room for 7 lines.
    private static final int[] MANY = {4, 3, 3, 0, 40, 6, 7, 1};
    private static final int[][] COLUMNS = {{1, 9, 30, 17, -1}, {1, 5, 26, 14, -1}, {0, 3, 3, 3, 400}, {2, 3, 3, 3, 800}};
    private static final int[][] ROWS = {{3, 0, 0}, {1, 1, -1}, {2, 1, 2}};
    private static final int[][][] CELLS = {
        {{45, 3, 0, -1}, {10, 1, 0, -1}, {120, 1, 0, 120}, {240, 1, 0, 240}},
        {{12, 1, 0, -1}, {60, 0, 1, -1}, {-20, 1, 0, 100}, {-40, 1, 0, 200}},
        {{0, 1, 0, -1}, {26, 2, 0, -1}, {300, 1, 0, 400}, {600, 1, 0, 800}},
    };
    private static final int[][] PAGES = {{0, 1, 1, 2, 9}, {1, 2, 0, 4, 13}, {-1, 0, 1, 2, 7}};
    private static final int[][] CARRIED = {{-1, -1, 120, 240}, {-1, -1, 400, 800}, {-1, -1, 400, 800}};

    private static TableWright example() {
        TableWright x = new TableWright();
        x.column(true, 4);
        x.column(true, 3);
        x.column(false, 2);
        x.formula(2, 2, 2, 2);
        withRows(x, 3);
        x.text(0, 0, 45, 9);
        x.text(0, 1, 10, 5);
        x.number(0, 2, 120);
        x.note(0, 2);
        x.text(1, 0, 12, 8);
        x.text(1, 1, 60, 12);
        x.span(1, 0, true);
        x.number(1, 2, -20);
        x.keep(1, true);
        x.text(2, 1, 26, 4);
        x.number(2, 2, 300);
        x.note(2, 5);
        x.paper(40, 10);
        return x;
    }

    // ---- terms

    private static void terms() {
        itsCalls();
        wholeNumbers();
        kinds();
        valuesOfItsRow();
        narrowed();
        keptWithTheNextOne();
        oneBehindTheOther();
        carriedOfNoText();
        titlesAreRead();
    }

    private static void itsCalls() {
        sentence(0, "Its calls: columns of numbers, texts and formulas come, and rows; cells are written, texts go over two"
                + " columns, rows are kept together, notes are put to them; the table is laid on pages, upright or turned,"
                + " with heads again and sums that are carried; and one asks how wide and how high all becomes, what stands"
                + " on which page, what is carried, what is read aloud, and what an edit would change.");
        TableWright x = example();
        due("columns", 4, x.many(0));
        due("rows", 3, x.many(1));
        due("a text over two columns", 1, x.cell(1, 1, 2));
        due("a note that is put to a row", 2, x.note(0, 2));
        due("rows that are kept together", x.ofRow(1, 1), x.ofRow(2, 1));
        due("pages", 3, x.many(2));
        due("upright", 0, x.many(3));
        due("how wide", 40, x.many(4));
        due("how high", 6, x.many(5));
        due("what stands on the second page", 1, x.ofPage(1, 0));
        due("what is carried", 120, x.carried(0, 2));
        due("what is read aloud, with heads again", 13, x.ofPage(1, 4));
        due("what an edit would change", 2, x.changedBy(1, 2, 80));
        due("turned", 3, x.paper(10, 40));
        due("turned", 1, x.many(3));
        due("as wide as upright", 40, x.many(4));
    }

    private static void wholeNumbers() {
        sentence(0, "All numbers are whole; / is cut. NONE is -1.");
        TableWright x = high(1);
        x.column(true, 9);
        x.paper(20, 60);
        int[] lengths = {19, 20, 21, 39, 40, 41, 99, 100, 101};
        int[] heights = {2, 2, 3, 4, 4, 5, 10, 10, 11};
        for (int i = 0; i < lengths.length; i++) {
            x.text(0, 0, lengths[i], 0);
            due("width", 10, x.ofColumn(0, 3));
            due("lines of " + lengths[i] + " letters", heights[i], x.ofRow(0, 0));
        }
        due("no note", -1, x.ofRow(0, 2));
        due("no sum", -1, x.ofColumn(0, 4));
        due("no pages", -1, new TableWright().many(2));
    }

    private static void kinds() {
        sentence(0, "of a KIND: 0 NUMBER, 1 TEXT, or a FORMULA: 2 the sum, 3 the difference (the first less the second one),");
        TableWright x = numbers(1, 1);
        x.column(true, 1);
        x.column(false, 1);
        x.formula(2, 0, 2, 1);
        x.formula(3, 0, 2, 1);
        x.formula(4, 0, 2, 1);
        int[] kinds = {0, 1, 0, 2, 3, 4};
        for (int column = 0; column < 6; column++) {
            due("kind of column " + column, kinds[column], x.ofColumn(column, 0));
        }
        x.number(0, 0, 11);
        x.number(0, 2, 4);
        int[] values = {11, 0, 4, 15, 7, 44};
        for (int column = 0; column < 6; column++) {
            due("value of column " + column, values[column], x.cell(0, column, 0));
        }
    }

    private static void valuesOfItsRow() {
        sentence(0, "that of a FORMULA is what it says of the VALUES of its ROW,");
        TableWright x = numbers(2, 3);
        x.formula(3, 0, 1, 1);
        x.formula(4, 2, 0, 1);
        for (int row = 0; row < 3; row++) {
            x.number(row, 0, 10 * row + 5);
            x.number(row, 1, row + 1);
        }
        int[] differences = {4, 13, 22};
        int[] products = {20, 195, 550};
        for (int row = 0; row < 3; row++) {
            due("a difference of row " + row, differences[row], x.cell(row, 2, 0));
            due("a product with it", products[row], x.cell(row, 3, 0));
        }
        x.number(1, 1, -1);
        due("it follows what is written", 16, x.cell(1, 2, 0));
        due("what is of it follows, too", 240, x.cell(1, 3, 0));
        due("that of another row stays", 22, x.cell(2, 2, 0));
        x.cut(0);
        due("it goes with its row", 16, x.cell(0, 2, 0));
    }

    private static void narrowed() {
        sentence(0, "WIDTHS. LEAST of a COLUMN is the greatest of:");
        sentence(0, "the WIDTHS are BEST at first; as long as the table is too wide,");
        TableWright x = texts(2, 1);
        x.text(0, 0, 24, 3);
        x.text(0, 1, 14, 6);
        due("LEAST of the first", 3, x.ofColumn(0, 1));
        due("LEAST of the second", 6, x.ofColumn(1, 1));
        // The first spares 21, the second 8: the first is less wide until both spare 8, then they take turns.
        int[] wide = {60, 40, 39, 38, 30, 27, 26, 25, 24, 11, 10};
        int[] first = {24, 24, 24, 23, 15, 12, 11, 10, 10, 3, 3};
        int[] second = {14, 14, 14, 14, 14, 14, 14, 14, 13, 7, 6};
        for (int i = 0; i < wide.length; i++) {
            due("paper()", 1, x.paper(wide[i], 60));
            due("in " + wide[i] + ", the first", first[i], x.ofColumn(0, 3));
            due("in " + wide[i] + ", the second", second[i], x.ofColumn(1, 3));
            due("no less wide than it must be", Math.min(39, wide[i]), x.many(4));
        }
    }

    private static void keptWithTheNextOne() {
        sentence(0, "ROWS can be KEPT with the next one,");
        keptOnPages(new int[] {4, 2, 2, 1}, -1, 0, 0, 1, 1);
        keptOnPages(new int[] {4, 2, 2, 1}, 0, 0, 0, 1, 1);
        keptOnPages(new int[] {4, 2, 2, 1}, 1, 0, 1, 1, 1);
        keptOnPages(new int[] {3, 2, 2, 2}, -1, 0, 0, 0, 1);
        keptOnPages(new int[] {3, 2, 2, 2}, 1, 0, 0, 0, 1);
        keptOnPages(new int[] {3, 2, 2, 2}, 2, 0, 0, 1, 1);
        keptOnPages(new int[] {3, 2, 2, 2}, 3, 0, 0, 0, 1);
    }

    private static void keptOnPages(int[] heights, int kept, int... pages) {
        TableWright x = high(heights);
        x.paper(10, 10);
        if (kept >= 0) {
            due("keep()", false, x.keep(kept, true));
        }
        for (int row = 0; row < pages.length; row++) {
            due("page of row " + row + " if " + kept + " is kept", pages[row], x.ofRow(row, 1));
        }
    }

    private static void oneBehindTheOther() {
        sentence(0, "PAGES are filled, one behind the other.");
        TableWright x = high(5, 4, 2, 6, 1, 1, 7, 1);
        due("pages", 6, x.paper(10, 10));
        // Room that is left on a page stays so, though a row behind would have it.
        int[] pages = {0, 1, 1, 2, 2, 3, 4, 5};
        for (int row = 0; row < 8; row++) {
            due("page of row " + row, pages[row], x.ofRow(row, 1));
        }
        int[] left = {2, 1, 0, 6, 0, 6};
        int[] first = {0, 1, 3, 5, 6, 7};
        for (int page = 0; page < 6; page++) {
            due("left on page " + page, left[page], x.ofPage(page, 3));
            due("first row of page " + page, first[page], x.ofPage(page, 0));
        }
    }

    private static void carriedOfNoText() {
        sentence(0, "CARRIED on a PAGE, of a COLUMN that is no TEXT,");
        TableWright x = example();
        for (int page = 0; page < 3; page++) {
            for (int column = 0; column < 4; column++) {
                due("carried(" + page + ", " + column + ")", CARRIED[page][column], x.carried(page, column));
            }
        }
    }

    private static void titlesAreRead() {
        sentence(0, "Aloud, of a PAGE are read: each TITLE;");
        for (int columns = 1; columns <= 6; columns++) {
            TableWright x = texts(columns, 1);
            x.text(0, 0, 7, 1);
            x.paper(60, 10);
            due("titles and cells of " + columns, columns + columns, x.ofPage(0, 4));
            TableWright y = new TableWright();
            for (int column = 0; column < columns; column++) {
                y.column(true, column == 0 ? 9 : 1);
            }
            y.row();
            y.note(0, 5);
            y.text(0, 0, 36, 1);
            for (int column = 1; column < columns; column++) {
                y.text(0, column, 1, 1);
            }
            int wide = Math.max(10, 9 + 2 * (columns - 1));
            due("pages", 2, y.paper(wide, 10));
            due("titles again of " + columns + ", and a note", columns + 1, y.ofPage(1, 4));
        }
    }

    private static void rulesForAllCalls() {
        sentence(0, "A method that throws an exception changes nothing. If several exceptions apply, the one that is named first is thrown.");
        TableWright x = example();
        x.column(true, 1);
        x.column(true, 1);
        long before = x.digest();
        due("no such column, wrong kind and title, 6 columns", INDEX, thrownBy(() -> x.formula(1, 6, 0, 13)));
        due("wrong kind, 6 columns", ARGUMENT, thrownBy(() -> x.formula(1, 2, 2, 1)));
        due("wrong title, 6 columns", ARGUMENT, thrownBy(() -> x.column(true, 0)));
        due("6 columns", STATE, thrownBy(() -> x.column(true, 1)));
        due("6 columns", STATE, thrownBy(() -> x.formula(2, 2, 2, 1)));
        due("no such row, wrong value", INDEX, thrownBy(() -> x.number(3, 2, 10000)));
        due("no such column, wrong length", INDEX, thrownBy(() -> x.text(0, 6, 201, 0)));
        due("no such row, the last column", INDEX, thrownBy(() -> x.span(3, 5, true)));
        due("no such row, wrong lines", INDEX, thrownBy(() -> x.note(-1, 6)));
        due("no such row, wrong what", INDEX, thrownBy(() -> x.cell(3, 0, 4)));
        due("no such column, wrong what", INDEX, thrownBy(() -> x.ofColumn(6, 5)));
        due("no such row, wrong what", INDEX, thrownBy(() -> x.ofRow(3, 3)));
        due("no such page, wrong what", INDEX, thrownBy(() -> x.ofPage(99, 5)));
        due("no such row, wrong value", INDEX, thrownBy(() -> x.changedBy(3, 2, 10000)));
        due("nothing is changed", before, x.digest());
    }

    // ---- promises 2 to 11

    private static void whatIsWritten() {
        columnCalls();
        formulaCalls();
        rowCalls();
        cutCalls();
        numberCalls();
        textCalls();
        spanCalls();
        noteCalls();
        keepCalls();
        paperCalls();
    }

    private static void columnCalls() {
        sentence(2, "Adds a COLUMN of NUMBERS, or of TEXTS. - `isText`: whether of TEXTS - `title`: how long its TITLE is Returns its number.");
        TableWright x = withRows(new TableWright(), 2);
        boolean[] isText = {true, false, false, true, true, false};
        int[] titles = {7, 1, 12, 3, 9, 5};
        for (int column = 0; column < 6; column++) {
            due("its number", column, x.column(isText[column], titles[column]));
            due("columns", column + 1, x.many(0));
            for (int at = 0; at <= column; at++) {
                due("kind of column " + at, isText[at] ? 1 : 0, x.ofColumn(at, 0));
                due("title of column " + at, titles[at], x.ofColumn(at, 1));
            }
            due("its cell of a row that was there", 0, x.cell(1, column, 0));
        }
        due("number()", 0, x.number(1, 5, 8));
        due("text()", 0, x.text(1, 4, 8, 8));
    }

    private static void formulaCalls() {
        sentence(3, "Adds a COLUMN of a FORMULA. - `kind`: its KIND, 2 to 4 - `first`: the first COLUMN -");
        sentence(3, "`title`: how long its TITLE is Returns its number.");
        for (int kind = 2; kind <= 4; kind++) {
            for (int first = 0; first < 2; first++) {
                TableWright x = numbers(2, 1);
                x.number(0, 0, 10);
                x.number(0, 1, 7);
                due("its number", 2, x.formula(kind, first, 1 - first, 5 + kind));
                due("columns", 3, x.many(0));
                due("kind", kind, x.ofColumn(2, 0));
                due("title", 5 + kind, x.ofColumn(2, 1));
                int want = kind == 2 ? 17 : kind == 4 ? 70 : first == 0 ? 3 : -3;
                due("value of kind " + kind + ", the first is " + first, want, x.cell(0, 2, 0));
                due("the next one's number", 3, x.formula(2, 2, first, 1));
                due("of a formula", want + (first == 0 ? 10 : 7), x.cell(0, 3, 0));
            }
        }
    }

    private static void rowCalls() {
        sentence(4, "Adds a ROW at the end. Returns its number.");
        TableWright x = numbers(1, 0);
        for (int row = 0; row < 5; row++) {
            due("its number", row, x.row());
            due("rows", row + 1, x.many(1));
            due("number()", 0, x.number(row, 0, row + 60));
        }
        for (int row = 0; row < 5; row++) {
            due("the value of row " + row, row + 60, x.cell(row, 0, 0));
        }
        x.cut(1);
        due("its number behind a cut", 4, x.row());
        due("it is the one at the end", 0, x.cell(4, 0, 0));
        due("the one ahead of it", 64, x.cell(3, 0, 0));
    }

    private static void cutCalls() {
        sentence(5, "`row`: the ROW Returns how many are left.");
        TableWright x = numbers(1, 6);
        for (int row = 0; row < 6; row++) {
            x.number(row, 0, row);
        }
        int[] cuts = {5, 0, 2, 1, 1, 0};
        int[][] left = {{0, 1, 2, 3, 4}, {1, 2, 3, 4}, {1, 2, 4}, {1, 4}, {1}, {}};
        for (int i = 0; i < cuts.length; i++) {
            due("cut(" + cuts[i] + ")", 5 - i, x.cut(cuts[i]));
            due("rows", 5 - i, x.many(1));
            for (int row = 0; row < left[i].length; row++) {
                due("row " + row + " behind cut " + i, left[i][row], x.cell(row, 0, 0));
            }
        }
    }

    private static void numberCalls() {
        sentence(6, "Writes a NUMBER. - `row`: the ROW - `column`: the COLUMN - `value`: the VALUE Returns the one before.");
        for (int row = 0; row < 3; row++) {
            for (int column = 0; column < 4; column++) {
                TableWright x = numbers(4, 3);
                due("the one before", 0, x.number(row, column, -77));
                due("the one before", -77, x.number(row, column, 42));
                due("the same once more", 42, x.number(row, column, 42));
                for (int at = 0; at < 12; at++) {
                    int want = at / 4 == row && at % 4 == column ? 42 : 0;
                    due("value of " + at, want, x.cell(at / 4, at % 4, 0));
                }
            }
        }
    }

    private static void textCalls() {
        sentence(7, "Writes a TEXT. - `row`: the ROW - `column`: the COLUMN - `length`: its LENGTH - `word`: its longest WORD Returns the LENGTH before.");
        for (int row = 0; row < 3; row++) {
            for (int column = 0; column < 4; column++) {
                TableWright x = texts(4, 3);
                due("the length before", 0, x.text(row, column, 19, 4));
                due("the length before", 19, x.text(row, column, 23, 11));
                due("the same once more", 23, x.text(row, column, 23, 11));
                for (int at = 0; at < 12; at++) {
                    int want = at / 4 == row && at % 4 == column ? 23 : 0;
                    due("length of " + at, want, x.cell(at / 4, at % 4, 0));
                }
                for (int at = 0; at < 4; at++) {
                    due("word in column " + at, at == column ? 11 : 1, x.ofColumn(at, 1));
                    due("length in column " + at, at == column ? 23 : 1, x.ofColumn(at, 2));
                }
            }
        }
    }

    private static void spanCalls() {
        sentence(8, "Lets a CELL of a TEXT SPAN, or not. - `row`: the ROW - `column`: the COLUMN - `isSpan`:");
        sentence(8, "Returns whether the CELL of the next COLUMN is HIDDEN then.");
        for (int row = 0; row < 2; row++) {
            for (int column = 0; column < 3; column++) {
                TableWright x = texts(4, 2);
                due("not, as it was", false, x.span(row, column, false));
                due("span()", true, x.span(row, column, true));
                due("once more", true, x.span(row, column, true));
                for (int at = 0; at < 8; at++) {
                    int want = at / 4 == row && at % 4 == column + 1 ? 1 : 0;
                    due("hidden, of " + at, want, x.cell(at / 4, at % 4, 2));
                }
                due("no more", false, x.span(row, column, false));
                due("hidden", 0, x.cell(row, column + 1, 2));
            }
        }
        TableWright y = texts(3, 1);
        y.span(0, 0, true);
        due("of a hidden one, which spans nothing", false, y.span(0, 1, true));
        due("of the one ahead of it no more", false, y.span(0, 0, false));
        due("of one that is hidden no more", true, y.span(0, 1, true));
    }

    private static void noteCalls() {
        sentence(9, "`row`: a ROW - `lines`:");
        sentence(9, "Returns those before.");
        for (int row = 0; row < 3; row++) {
            TableWright x = numbers(1, 3);
            int before = 0;
            for (int lines : new int[] {4, 5, 1, 1, 0, 0, 2, 3}) {
                due("those before", before, x.note(row, lines));
                due("lines of notes", lines, x.many(6));
                for (int at = 0; at < 3; at++) {
                    due("page of note " + at, at == row && lines > 0 ? 0 : -1, x.ofRow(at, 2));
                }
                before = lines;
            }
            due("left", 27 - 3 - 3, x.ofPage(0, 3));
        }
    }

    private static void keepCalls() {
        sentence(10, "`row`: a ROW - `isKept`:");
        sentence(10, "Returns whether it was.");
        for (int row = 0; row < 3; row++) {
            TableWright x = numbers(1, 3);
            boolean was = false;
            for (boolean isKept : new boolean[] {false, true, true, false, true}) {
                due("whether it was", was, x.keep(row, isKept));
                was = isKept;
            }
            for (int at = 0; at < 3; at++) {
                due("whether row " + at + " was", at == row, x.keep(at, false));
            }
        }
    }

    private static void paperCalls() {
        sentence(11, "`wide`: how WIDE PAGES are from now on - `high`: how HIGH");
        TableWright x = numbers(1, 20);
        x.column(true, 1);
        x.text(0, 1, 30, 1);
        // Upright the text is 3 lines high, and 22 lines go on pages with room for 12.
        due("paper()", 2, x.paper(12, 15));
        due("wide", 12, x.many(4));
        due("rows on the first", 10, x.ofPage(0, 1));
        x.row();
        due("wide from now on", 12, x.many(4));
        due("rows on the first from now on", 10, x.ofPage(0, 1));
        due("left on the second", 1, x.ofPage(1, 3));
        due("paper() 1 line lower", 3, x.paper(12, 14));
        due("wide as before", 12, x.many(4));
        due("rows on the first", 9, x.ofPage(0, 1));
        due("paper() 1 letter wider", 3, x.paper(13, 14));
        due("wide", 13, x.many(4));
        due("rows on the first as before", 9, x.ofPage(0, 1));
        due("paper() with room for all", 1, x.paper(20, 32));
        due("left of 29", 29 - 20 - 2, x.ofPage(0, 3));
    }

    // ---- promises 12 to 17

    private static void whatIsAsked() {
        sentence(12, "`row`: a ROW - `column`: a COLUMN - `what`: 0 its VALUE, or, of a TEXT, its LENGTH,");
        sentence(12, "Returns that.");
        TableWright x = example();
        for (int row = 2; row >= 0; row--) {
            for (int column = 0; column < 4; column++) {
                for (int what = 0; what <= 3; what++) {
                    due("cell(" + row + ", " + column + ", " + what + ")", CELLS[row][column][what], x.cell(row, column, what));
                }
            }
        }
        sentence(13, "`column`: a COLUMN - `what`: 0 its KIND, 1 LEAST, 2 BEST,");
        sentence(13, "Returns that.");
        for (int column = 3; column >= 0; column--) {
            for (int what = 0; what <= 4; what++) {
                due("ofColumn(" + column + ", " + what + ")", COLUMNS[column][what], x.ofColumn(column, what));
            }
        }
        sentence(14, "`row`: a ROW - `what`: 0 its HEIGHT, 1 its PAGE,");
        sentence(14, "Returns that.");
        for (int row = 2; row >= 0; row--) {
            for (int what = 0; what <= 2; what++) {
                due("ofRow(" + row + ", " + what + ")", ROWS[row][what], x.ofRow(row, what));
            }
        }
        whatIsAskedOfPages();
    }

    private static void whatIsAskedOfPages() {
        sentence(15, "`page`: a PAGE, from 0 - `what`:");
        sentence(15, "3 how many lines of its ROOM are left, 4 how much is read aloud of it Returns that.");
        TableWright x = example();
        for (int page = 2; page >= 0; page--) {
            for (int what = 0; what <= 4; what++) {
                due("ofPage(" + page + ", " + what + ")", PAGES[page][what], x.ofPage(page, what));
            }
        }
        sentence(16, "`page`: a PAGE - `column`: a COLUMN");
        for (int page = 2; page >= 0; page--) {
            for (int column = 0; column < 4; column++) {
                due("carried(" + page + ", " + column + ")", CARRIED[page][column], x.carried(page, column));
            }
        }
        sentence(17, "`what`: 0 COLUMNS, 1 ROWS,");
        sentence(17, "Returns that.");
        for (int what = 7; what >= 0; what--) {
            due("many(" + what + ")", MANY[what], x.many(what));
        }
        sentence(18, "Returns the mean number of lines of the ROOM that are left on a PAGE, not cut; 0 without PAGES.");
        due("meanLeft()", 8 / 3.0, x.meanLeft());
    }

    // ---- promises 19 to 22

    private static void whatWouldBe() {
        TableWright x = example();
        sentence(19, "`wide`: how WIDE - `high`: how HIGH - `isTurned`: whether TURNED, otherwise UPRIGHT");
        due("60 wide and 20 high", 1, x.pagesWith(60, 20, false));
        due("20 wide and 60 high", -1, x.pagesWith(60, 20, true));
        due("25 wide and 60 high", 1, x.pagesWith(60, 25, true));
        due("23 wide and 60 high: all of LEAST", 1, x.pagesWith(23, 60, false));
        due("40 wide and 10 high, as it is", 3, x.pagesWith(40, 10, false));
        due("40 wide and 10 high", 3, x.pagesWith(10, 40, true));
        sentence(20, "`row`: a ROW - `column`: a COLUMN - `value`: a VALUE");
        due("carried on all pages", 3, x.changedBy(0, 2, 121));
        due("carried on the last two", 2, x.changedBy(1, 2, -21));
        due("carried on the last two", 2, x.changedBy(2, 2, 299));
        due("what is written", 0, x.changedBy(1, 2, -20));
        sentence(21, "`row`: a ROW");
        due("without the first, both texts have BEST, and all has room", 1, x.pagesWithout(0));
        // 9 + 26 and 3 + 3, 3 between: 4 too wide, and so 26 - 4; 3, 2 and 2 lines, and the note of 5 waits.
        due("without the second", 2, x.pagesWithout(1));
        due("without the third", 1, x.pagesWithout(2));
        due("nothing is changed", example().digest(), x.digest());
    }

    private static void digest() {
        sentence(22, "Computes a checksum. A number d starts with 58119;");
        sentence(22, "many() of 0 to 7; COLUMN by COLUMN ofColumn() of 0 to 4; ROW by ROW ofRow() of 0 to 2, and, COLUMN by COLUMN,"
                + " cell() of 0 to 3; PAGE by PAGE ofPage() of 0 to 4, and carried() of each COLUMN; pagesWith() of 30 and 20,"
                + " UPRIGHT, then TURNED. Returns d.");
        long d = with(58119, MANY);
        for (int[] column : COLUMNS) {
            d = with(d, column);
        }
        for (int row = 0; row < 3; row++) {
            d = with(d, ROWS[row]);
            for (int[] cell : CELLS[row]) {
                d = with(d, cell);
            }
        }
        for (int page = 0; page < 3; page++) {
            d = with(d, PAGES[page]);
            d = with(d, CARRIED[page]);
        }
        // 30 wide the texts are 12 and 9: 4, 2, 1, 3 and 5 lines of 17. 20 is less than all of LEAST.
        due("digest()", with(d, 1, -1), example().digest());
    }

    private static long with(long d, int... numbers) {
        long digest = d;
        for (int v : numbers) {
            digest = digest * 31 + v;
        }
        return digest;
    }
}
