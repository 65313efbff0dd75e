import java.io.IOException;
import java.math.BigInteger;
import java.util.function.Consumer;

/**
 * The document's sentences that name an edge (too small, too large, empty, full, just enough),
 * one test each, under the sentence's own words. What is refused stands in LimitTests.
 */
public final class EdgeTests extends Checks {
    private static String document = "";

    public static void main(String[] args) throws IOException {
        document = documentAt(args[0]);
        table();
        values();
        spans();
        sums();
        widths();
        heights();
        paper();
        groups();
        filling();
        notes();
        uprightAndTurned();
        pages();
        promises();
        whatWouldBe();
        digest();
        finish("EdgeTests");
    }

    /** What follows is of these words, which must stand in the document. */
    private static void sentence(String words) {
        part = words.length() > 70 ? words.substring(0, 70) + ".." : words;
        due("whether the document says so", true, document.contains(words));
    }

    // ---- terms 1: the table

    private static void table() {
        sixColumns();
        titles();
        columnsThatComeBefore();
        thirtyRows();
    }

    private static void sixColumns() {
        sentence("THE TABLE has at most 6 COLUMNS, numbered from 0,");
        TableWright x = new TableWright();
        for (int column = 0; column < 6; column++) {
            due("column()", column, x.column(column == 5, 1));
        }
        due("many(0)", 6, x.many(0));
        x.row();
        due("text() of the last", 0, x.text(0, 5, 9, 2));
        due("number() of the first", 0, x.number(0, 0, 8));
        due("the last is measured", 9, x.ofColumn(5, 2));
        due("the first is measured", 1, x.ofColumn(0, 2));
        due("pages", 1, x.many(2));
        due("width of the last", 9, x.ofColumn(5, 3));
        due("sum of the first", 8, x.carried(0, 0));
        due("all are read", 6 + 6, x.ofPage(0, 4));
    }

    private static void titles() {
        sentence("each with a TITLE so many letters long, 1 to 12,");
        for (int title : new int[] {1, 12}) {
            TableWright x = new TableWright();
            x.column(false, title);
            x.column(true, title);
            x.formula(2, 0, 0, title);
            for (int column = 0; column < 3; column++) {
                due("least without rows", title, x.ofColumn(column, 1));
            }
            x.row();
            for (int column = 0; column < 3; column++) {
                due("least", title, x.ofColumn(column, 1));
                due("best", title, x.ofColumn(column, 2));
                due("width", title, x.ofColumn(column, 3));
            }
        }
    }

    private static void columnsThatComeBefore() {
        sentence("of two COLUMNS that come before it and are no TEXTS.");
        TableWright x = numbers(1, 1);
        x.number(0, 0, 3);
        for (int column = 1; column < 6; column++) {
            due("formula() of the one right before", column, x.formula(2, column - 1, column - 1, 1));
            due("value", 3 << column, x.cell(0, column, 0));
        }
        sentence("`second`: the second one (it can be the same)");
        TableWright y = numbers(2, 1);
        y.number(0, 0, 7);
        y.number(0, 1, -5);
        y.formula(3, 0, 0, 1);
        y.formula(3, 1, 0, 1);
        y.formula(3, 0, 1, 1);
        due("the first less itself", 0, y.cell(0, 2, 0));
        due("a later one less an earlier one", -12, y.cell(0, 3, 0));
        due("an earlier one less a later one", 12, y.cell(0, 4, 0));
    }

    private static void thirtyRows() {
        sentence("It has at most 30 ROWS, numbered from 0.");
        TableWright x = numbers(1, 0);
        for (int row = 0; row < 30; row++) {
            due("row()", row, x.row());
        }
        due("number() of the last", 0, x.number(29, 0, 5));
        due("note() of the last", 0, x.note(29, 1));
        due("many(1)", 30, x.many(1));
        due("paper() of just that room", 1, x.paper(10, 34));
        due("left", 0, x.ofPage(0, 3));
        due("page of the last", 0, x.ofRow(29, 1));
        due("heights", 30, x.many(5));
        due("sum up to the last", 5, x.cell(29, 0, 3));
        due("sum up to the one ahead", 0, x.cell(28, 0, 3));
        due("cut() of the last", 29, x.cut(29));
        due("cut() of the first", 28, x.cut(0));
        due("left", 3, x.ofPage(0, 3));
    }

    // ---- terms 1: values

    private static void values() {
        numberEnds();
        formulaEnds();
        formulaProducts();
        textEnds();
    }

    private static void numberEnds() {
        sentence("A CELL of a NUMBER has a VALUE, -9999 to 9999 (0 at first);");
        TableWright x = numbers(1, 1);
        due("at first", 0, x.cell(0, 0, 0));
        due("number() of the greatest", 0, x.number(0, 0, 9999));
        due("the greatest", 9999, x.cell(0, 0, 0));
        due("its size", 4, x.ofColumn(0, 1));
        due("number() of the least", 9999, x.number(0, 0, -9999));
        due("the least", -9999, x.cell(0, 0, 0));
        due("its size", 5, x.ofColumn(0, 1));
        x.column(false, 1);
        due("of a column that comes behind the rows", 0, x.number(0, 1, 1));
    }

    private static void formulaEnds() {
        sentence("as great as that is, but -99999 at the least, and 99999 at the most.");
        TableWright x = numbers(3, 1);
        x.formula(4, 0, 1, 1);
        x.formula(2, 3, 2, 1);
        x.formula(3, 3, 2, 1);
        for (int sign = -1; sign <= 1; sign += 2) {
            x.number(0, 0, sign * 9999);
            x.number(0, 1, 10);
            due("a product inside", sign * 99990, x.cell(0, 3, 0));
            for (int more = 7; more <= 11; more++) {
                int want = sign * Math.min(99999, 99990 + more);
                x.number(0, 2, sign * more);
                due("a sum with " + more, want, x.cell(0, 4, 0));
                x.number(0, 2, sign * -more);
                due("a difference with " + more, want, x.cell(0, 5, 0));
            }
        }
    }

    private static void formulaProducts() {
        sentence("4 the product of two COLUMNS");
        TableWright x = numbers(2, 1);
        x.formula(4, 0, 1, 1);
        for (int sign = -1; sign <= 1; sign += 2) {
            x.number(0, 0, sign * 369);
            x.number(0, 1, 271);
            due("just the end", sign * 99999, x.cell(0, 2, 0));
            x.number(0, 0, sign * 250);
            x.number(0, 1, 400);
            due("one more", sign * 99999, x.cell(0, 2, 0));
            x.number(0, 0, sign * 316);
            x.number(0, 1, 316);
            due("inside", sign * 99856, x.cell(0, 2, 0));
        }
        // 99999 * 39996 is beyond 32 bits: only a product as great as it is has the right sign.
        TableWright y = numbers(1, 1);
        y.formula(4, 0, 0, 1);
        y.formula(2, 0, 0, 1);
        y.formula(2, 2, 2, 1);
        y.formula(4, 1, 3, 1);
        y.formula(4, 4, 4, 1);
        y.number(0, 0, 9999);
        due("far too great", 99999, y.cell(0, 4, 0));
        due("its square", 99999, y.cell(0, 5, 0));
        y.number(0, 0, -9999);
        due("far too small", -99999, y.cell(0, 4, 0));
        due("its square", 99999, y.cell(0, 5, 0));
    }

    private static void textEnds() {
        sentence("A CELL of a TEXT has a LENGTH, 0 to 200, and a longest WORD, 0 to 12 (both 0 at first).");
        TableWright x = texts(1, 1);
        due("length at first", 0, x.cell(0, 0, 0));
        due("word at first", 1, x.ofColumn(0, 1));
        due("height of length 0", 1, x.ofRow(0, 0));
        due("text() of the greatest", 0, x.text(0, 0, 200, 12));
        due("the greatest length", 200, x.cell(0, 0, 0));
        due("the greatest word", 12, x.ofColumn(0, 1));
        due("height of length 200, 30 wide", 7, x.ofRow(0, 0));
        due("text() of the least", 200, x.text(0, 0, 0, 0));
        due("the least length", 0, x.cell(0, 0, 0));
        due("the least word", 1, x.ofColumn(0, 1));
        due("height", 1, x.ofRow(0, 0));
        due("text() of a word as long as all", 0, x.text(0, 0, 12, 12));
        due("least", 12, x.ofColumn(0, 1));
    }

    // ---- terms 1: what spans

    private static void spans() {
        overTheNextText();
        besideAnother();
        hiddenSpansNothing();
        hiddenCountsNowhere();
    }

    private static void overTheNextText() {
        sentence("One that is to SPAN does so, over the next COLUMN, too, if that is a TEXT; the CELL there is HIDDEN then");
        TableWright x = texts(6, 2);
        due("span() of the first", true, x.span(0, 0, true));
        due("span() of the last but one", true, x.span(0, 4, true));
        int[] hidden = {0, 1, 0, 0, 0, 1};
        for (int column = 0; column < 6; column++) {
            due("hidden, column " + column, hidden[column], x.cell(0, column, 2));
            due("hidden in the other row", 0, x.cell(1, column, 2));
        }
        due("span() no more", false, x.span(0, 4, false));
        due("hidden no more", 0, x.cell(0, 5, 2));
        // It is the last column at first, and cannot span; a text that comes makes it one that can.
        TableWright y = texts(1, 1);
        due("refused", ARGUMENT, thrownBy(() -> y.span(0, 0, true)));
        y.column(true, 1);
        due("not hidden by what was refused", 0, y.cell(0, 1, 2));
        due("span()", true, y.span(0, 0, true));
    }

    private static void besideAnother() {
        sentence("Beside another COLUMN it does not SPAN.");
        TableWright x = new TableWright();
        x.column(true, 1);
        x.column(false, 1);
        x.column(true, 1);
        x.formula(2, 1, 1, 1);
        x.column(true, 1);
        x.row();
        x.text(0, 0, 20, 8);
        x.text(0, 2, 20, 9);
        due("span() beside a number", false, x.span(0, 0, true));
        due("span() beside a formula", false, x.span(0, 2, true));
        for (int column = 0; column < 5; column++) {
            due("hidden, column " + column, 0, x.cell(0, column, 2));
        }
        due("its word counts", 8, x.ofColumn(0, 1));
        due("its length counts", 20, x.ofColumn(2, 2));
        x.text(0, 0, 60, 8);
        due("paper()", 1, x.paper(60, 60));
        // 30 + 1 + 20 + 1 + 1 and 4 between are 57, so both are as wide as BEST.
        due("it is as high as in its own width", 2, x.cell(0, 0, 1));
        due("it is as high as in its own width", 1, x.cell(0, 2, 1));
    }

    private static void hiddenSpansNothing() {
        sentence("(it SPANS nothing then, and counts nowhere).");
        TableWright x = texts(6, 1);
        due("span() of the third", true, x.span(0, 2, true));
        due("span() of the second hides the third", true, x.span(0, 1, true));
        due("so the third hides nothing", 0, x.cell(0, 3, 2));
        due("span() of one that is hidden", false, x.span(0, 2, true));
        due("span() of the first hides the second", true, x.span(0, 0, true));
        int[] hidden = {0, 1, 0, 1, 0, 0};
        for (int column = 0; column < 6; column++) {
            due("hidden, column " + column, hidden[column], x.cell(0, column, 2));
        }
        due("span() of the first no more", false, x.span(0, 0, false));
        due("the second spans again", 1, x.cell(0, 2, 2));
        due("the third no more", 0, x.cell(0, 3, 2));
    }

    private static void hiddenCountsNowhere() {
        sentence("for one that SPANS with both WIDTHS and 1. All others have 1, HIDDEN ones 0.");
        TableWright x = texts(3, 1);
        x.text(0, 1, 200, 12);
        x.text(0, 2, 5, 3);
        due("read with it", 3 + 3, x.ofPage(0, 4));
        x.span(0, 0, true);
        due("least", 1, x.ofColumn(1, 1));
        due("best", 1, x.ofColumn(1, 2));
        due("height", 0, x.cell(0, 1, 1));
        due("height of the row", 1, x.ofRow(0, 0));
        due("read without it", 3 + 2, x.ofPage(0, 4));
        due("its length stays", 200, x.cell(0, 1, 0));
        x.span(0, 0, false);
        due("best, shown again", 30, x.ofColumn(1, 2));
        due("least, shown again", 12, x.ofColumn(1, 1));
    }

    // ---- terms 1: sums and sizes

    private static void sums() {
        sentence("The SUM of a COLUMN that is no TEXT up to a ROW: the VALUES of the ROWS 0 up to that one, together.");
        TableWright x = numbers(1, 30);
        x.formula(4, 0, 0, 1);
        for (int row = 0; row < 30; row++) {
            x.number(row, 0, row == 0 ? 400 : 9999);
        }
        due("up to the first", 400, x.cell(0, 0, 3));
        due("up to the first, of a formula", 99999, x.cell(0, 1, 3));
        due("up to the second", 10399, x.cell(1, 0, 3));
        due("up to the last", 400 + 29 * 9999, x.cell(29, 0, 3));
        due("the greatest of all sums", 30 * 99999, x.cell(29, 1, 3));
        due("its size", 7, x.ofColumn(1, 1));
        x.formula(3, 0, 1, 1);
        x.formula(3, 2, 1, 1);
        due("the least of all sums", 30 * -99999, x.ofColumn(3, 4));
        due("its size", 8, x.ofColumn(3, 1));
        sizes();
    }

    private static void sizes() {
        sentence("The SIZE of a number: how many digits it has, 1 more if it is below 0.");
        int[] numbers = {0, 9, 10, 99, 100, 999, 1000, 9999, -1, -9, -10, -99, -100, -999, -1000, -9999};
        int[] sizes = {1, 1, 2, 2, 3, 3, 4, 4, 2, 2, 3, 3, 4, 4, 5, 5};
        TableWright x = numbers(1, 1);
        for (int i = 0; i < numbers.length; i++) {
            x.number(0, 0, numbers[i]);
            due("of " + numbers[i], sizes[i], x.ofColumn(0, 1));
        }
        TableWright y = numbers(1, 2);
        y.number(0, 0, 9999);
        y.number(1, 0, 1);
        due("of the sum 10000", 5, y.ofColumn(0, 1));
        y.number(0, 0, -9999);
        y.number(1, 0, -1);
        due("of the sum -10000", 6, y.ofColumn(0, 1));
    }

    // ---- terms 2: widths

    private static void widths() {
        greatestIsLeast();
        bestOfThirty();
        bestThatIsLeast();
        together();
        lessWide();
        justFits();
        widestThatFits();
        neitherColumnsNorRows();
    }

    private static void greatestIsLeast() {
        sentence("LEAST of a COLUMN is the greatest of: its TITLE; of a TEXT the WORDS of its CELLS that are not HIDDEN and do not SPAN; otherwise the SIZES of all its VALUES, and of its SUMS up to each ROW.");
        TableWright x = new TableWright();
        x.column(true, 5);
        x.column(true, 1);
        withRows(x, 2);
        for (int word = 4; word <= 6; word++) {
            x.text(1, 0, 12, word);
            due("with a word of " + word, Math.max(5, word), x.ofColumn(0, 1));
        }
        x.span(1, 0, true);
        due("one that spans", 5, x.ofColumn(0, 1));
        TableWright y = new TableWright();
        y.column(false, 3);
        withRows(y, 3);
        y.number(0, 0, 500);
        due("a value of as many digits", 3, y.ofColumn(0, 1));
        y.number(1, 0, 500);
        due("a sum of one more", 4, y.ofColumn(0, 1));
        y.number(2, 0, -500);
        due("a sum ahead of the last", 4, y.ofColumn(0, 1));
        y.number(1, 0, -100);
        y.number(2, 0, 1);
        due("a value of one more than the title and all sums", 4, y.ofColumn(0, 1));
        y.cut(1);
        y.cut(1);
        y.number(0, 0, 12);
        due("the title", 3, y.ofColumn(0, 1));
    }

    private static void bestOfThirty() {
        sentence("BEST of a TEXT is the greatest LENGTH of such CELLS, but 30 at the most;");
        TableWright x = texts(2, 2);
        int[] lengths = {0, 1, 2, 29, 30, 31, 200};
        int[] bests = {1, 1, 2, 29, 30, 30, 30};
        for (int i = 0; i < lengths.length; i++) {
            x.text(0, 0, lengths[i], 0);
            due("of length " + lengths[i], bests[i], x.ofColumn(0, 2));
        }
        x.text(0, 0, 28, 0);
        x.text(1, 0, 29, 0);
        due("of two", 29, x.ofColumn(0, 2));
        x.span(1, 0, true);
        due("of one that spans, and one that does not", 28, x.ofColumn(0, 2));
        x.text(1, 1, 17, 0);
        due("of a hidden one", 1, x.ofColumn(1, 2));
    }

    private static void bestThatIsLeast() {
        sentence("LEAST, if that is more, and of all other COLUMNS.");
        TableWright x = new TableWright();
        x.column(true, 6);
        x.column(false, 2);
        x.formula(4, 1, 1, 7);
        due("without rows, of a text", 6, x.ofColumn(0, 2));
        due("without rows, of a number", 2, x.ofColumn(1, 2));
        due("without rows, of a formula", 7, x.ofColumn(2, 2));
        x.row();
        for (int length = 5; length <= 7; length++) {
            x.text(0, 0, length, 0);
            due("of length " + length, Math.max(6, length), x.ofColumn(0, 2));
        }
        x.number(0, 1, -9999);
        due("of a number", 5, x.ofColumn(1, 2));
        due("of a formula", 7, x.ofColumn(2, 2));
    }

    private static void together() {
        sentence("The table is as wide as all WIDTHS together, and 1 for each COLUMN but the last one.");
        TableWright x = new TableWright();
        x.row();
        int wide = 0;
        for (int title = 1; title <= 6; title++) {
            x.column(title % 2 == 0, title);
            wide += title + (title == 1 ? 0 : 1);
            due("wide with " + title, wide, x.many(4));
        }
    }

    private static void lessWide() {
        sentence("the COLUMN of those that are wider than LEAST for which WIDTH less LEAST is the greatest, of several the first one, is 1 less wide;");
        TableWright x = new TableWright();
        x.column(true, 3);
        x.column(true, 1);
        x.column(false, 12);
        x.column(true, 1);
        x.row();
        x.text(0, 0, 8, 0);
        x.text(0, 1, 6, 0);
        x.text(0, 3, 6, 0);
        // All spare 5 but the number: in 35 each has BEST.
        int[][] widths = {{35, 8, 6, 6}, {34, 7, 6, 6}, {33, 7, 5, 6}, {32, 7, 5, 5}, {31, 6, 5, 5}, {30, 6, 4, 5},
                {23, 4, 2, 2}, {22, 3, 2, 2}, {21, 3, 1, 2}, {20, 3, 1, 1}};
        for (int[] want : widths) {
            due("paper()", 1, x.paper(want[0], want[0]));
            due("wide", want[0], x.many(4));
            due("in " + want[0] + ", first text", want[1], x.ofColumn(0, 3));
            due("in " + want[0] + ", second text", want[2], x.ofColumn(1, 3));
            due("in " + want[0] + ", third text", want[3], x.ofColumn(3, 3));
            due("in " + want[0] + ", number", 12, x.ofColumn(2, 3));
        }
        due("less than all of LEAST", -1, x.paper(19, 19));
        // The greatest spare goes first, not the greatest width.
        TableWright y = new TableWright();
        y.column(true, 12);
        y.column(true, 1);
        y.row();
        y.text(0, 0, 20, 0);
        y.text(0, 1, 15, 0);
        y.paper(31, 31);
        due("the wide one that spares 8", 20, y.ofColumn(0, 3));
        due("the other one, that spares 14", 10, y.ofColumn(1, 3));
    }

    private static void justFits() {
        sentence("if there is none, it does not FIT,");
        TableWright x = new TableWright();
        x.column(true, 10);
        x.column(false, 9);
        x.row();
        x.text(0, 0, 30, 10);
        due("in more than BEST", 1, x.paper(41, 41));
        due("wide", 40, x.many(4));
        due("in just BEST", 1, x.paper(40, 40));
        due("width of just BEST", 30, x.ofColumn(0, 3));
        due("in 1 less than BEST", 1, x.paper(39, 39));
        due("width of 1 less", 29, x.ofColumn(0, 3));
        due("in just LEAST", 1, x.paper(20, 20));
        due("width of just LEAST", 10, x.ofColumn(0, 3));
        due("in 1 less than LEAST", -1, x.paper(19, 19));
        due("width in 1 less than LEAST", -1, x.ofColumn(0, 3));
        due("upright in just LEAST", 1, x.pagesWith(20, 10, false));
        due("upright in 1 less", -1, x.pagesWith(19, 10, false));
        due("turned in just LEAST", 1, x.pagesWith(10, 20, true));
        due("turned in 1 less", -1, x.pagesWith(10, 19, true));
    }

    private static void widestThatFits() {
        sentence("In some width it is laid so:");
        TableWright x = new TableWright();
        for (int title : new int[] {12, 12, 12, 12, 6, 1}) {
            x.column(false, title);
        }
        x.row();
        due("55 letters and 5 between on 60", 1, x.paper(60, 60));
        due("wide", 60, x.many(4));
        due("on 59", -1, x.paper(59, 59));
        due("paper()", 1, x.paper(60, 60));
        x.number(0, 5, 10);
        due("1 letter more", -1, x.many(2));
    }

    private static void neitherColumnsNorRows() {
        sentence("nor does it without COLUMNS, or ROWS.");
        TableWright noRows = new TableWright();
        noRows.column(true, 1);
        noRows.column(false, 1);
        TableWright noColumns = withRows(new TableWright(), 2);
        noColumns.note(0, 3);
        notLaidOut(new TableWright(), 0, 0, 0);
        notLaidOut(noRows, 2, 0, 0);
        notLaidOut(noColumns, 0, 2, 3);
        noRows.row();
        due("with a row", 1, noRows.many(2));
        noColumns.column(false, 1);
        due("with a column", 1, noColumns.many(2));
        noRows.cut(0);
        notLaidOut(noRows, 2, 0, 0);
    }

    private static void notLaidOut(TableWright x, int columns, int rows, int lines) {
        int[] many = {columns, rows, -1, -1, -1, -1, lines, -1};
        for (int what = 0; what < 8; what++) {
            due("many(" + what + ")", many[what], x.many(what));
        }
        due("mean left", 0.0, x.meanLeft());
        due("paper()", -1, x.paper(60, 60));
        due("pagesWith() upright", -1, x.pagesWith(10, 60, false));
        due("pagesWith() turned", -1, x.pagesWith(10, 60, true));
        due("ofPage()", INDEX, thrownBy(() -> x.ofPage(0, 0)));
        for (int column = 0; column < columns; column++) {
            int at = column;
            due("width", -1, x.ofColumn(column, 3));
            due("carried()", INDEX, thrownBy(() -> x.carried(0, at)));
        }
        for (int row = 0; row < rows; row++) {
            for (int what = 0; what <= 2; what++) {
                due("ofRow()", -1, x.ofRow(row, what));
            }
            due("pagesWithout()", -1, x.pagesWithout(row));
        }
    }

    // ---- terms 2: heights

    private static void heights() {
        sentence("The HEIGHT of a CELL of a TEXT: LENGTH / WIDTH, but rounded up, 1 at the least;");
        TableWright x = high(1);
        x.paper(10, 60);
        int[] lengths = {0, 1, 9, 10, 11, 20, 21, 190, 191, 199, 200};
        int[] heights = {1, 1, 1, 1, 2, 2, 3, 19, 20, 20, 20};
        for (int i = 0; i < lengths.length; i++) {
            x.text(0, 0, lengths[i], 0);
            due("width", 10, x.ofColumn(0, 3));
            due("of length " + lengths[i], heights[i], x.cell(0, 0, 1));
        }
        TableWright y = texts(1, 1);
        y.text(0, 0, 200, 0);
        y.column(false, 8);
        due("in width 1: 200 is too high", -1, y.pagesWith(10, 60, false));
        y.text(0, 0, 58, 0);
        due("in width 1: 1 line too few", -1, y.pagesWith(10, 60, false));
        y.text(0, 0, 57, 0);
        due("in width 1: just enough room", 1, y.paper(10, 60));
        due("in width 1", 57, y.cell(0, 0, 1));
        due("width", 1, y.ofColumn(0, 3));
        heightOfWhatSpans();
        heightOfRow();
    }

    private static void heightOfWhatSpans() {
        sentence("for one that SPANS with both WIDTHS and 1.");
        TableWright x = new TableWright();
        x.column(true, 9);
        x.column(true, 10);
        x.row();
        x.span(0, 0, true);
        due("pages", 1, x.paper(20, 60));
        int[] lengths = {0, 19, 20, 21, 40, 41, 200};
        int[] heights = {1, 1, 1, 2, 2, 3, 10};
        for (int i = 0; i < lengths.length; i++) {
            x.text(0, 0, lengths[i], 0);
            due("of length " + lengths[i], heights[i], x.cell(0, 0, 1));
        }
    }

    private static void heightOfRow() {
        sentence("The HEIGHT of a ROW is the greatest one of its CELLS.");
        TableWright x = new TableWright();
        x.column(true, 10);
        x.column(false, 1);
        x.column(true, 10);
        x.row();
        x.paper(23, 60);
        due("all the same", 1, x.ofRow(0, 0));
        x.text(0, 0, 30, 0);
        due("the first", 3, x.ofRow(0, 0));
        due("a number beside it", 1, x.cell(0, 1, 1));
        due("a text beside it", 1, x.cell(0, 2, 1));
        x.text(0, 2, 40, 0);
        due("the last", 4, x.ofRow(0, 0));
    }

    // ---- terms 3: paper

    private static void paper() {
        sentence("PAGES are WIDE letters and HIGH lines, 10 to 60 each (40 and 30 at first);");
        TableWright x = texts(2, 1);
        x.text(0, 0, 30, 0);
        x.text(0, 1, 30, 0);
        due("as wide as the paper at first", 40, x.many(4));
        TableWright y = numbers(1, 27);
        due("as high as the paper at first", 0, y.many(3));
        due("left", 0, y.ofPage(0, 3));
        y.row();
        due("a row more", 1, y.many(3));
        due("left of the paper's 40", 9, y.ofPage(0, 3));
        due("the narrowest", 1, x.paper(10, 60));
        due("wide", 10, x.many(4));
        due("the lowest and narrowest", 4, y.paper(10, 10));
        due("left behind 28 rows on 4 pages of 7", 0, y.ofPage(3, 3));
        due("the widest", 1, x.paper(60, 60));
        due("wide", 60, x.many(4));
        turnedRound();
        room();
    }

    private static void turnedRound() {
        sentence("turned it is the other way round.");
        TableWright x = new TableWright();
        x.column(true, 12);
        x.row();
        x.text(0, 0, 30, 0);
        due("upright is too narrow", 1, x.paper(11, 17));
        due("turned", 1, x.many(3));
        due("as wide as it was high", 17, x.many(4));
        due("as high as it was wide: 8 lines of room", 8 - 2, x.ofPage(0, 3));
    }

    private static void room() {
        sentence("On each PAGE 3 lines are for the head and sums; the others are its ROOM.");
        TableWright x = numbers(1, 8);
        due("10 high", 2, x.paper(10, 10));
        due("rows on the first", 7, x.ofPage(0, 1));
        due("left on the first", 0, x.ofPage(0, 3));
        due("left on the second", 6, x.ofPage(1, 3));
        due("60 high", 1, x.paper(60, 60));
        due("left of 57", 49, x.ofPage(0, 3));
        due("11 high", 1, x.pagesWith(10, 11, false));
    }

    // ---- terms 3: groups, on pages with room for 7 lines

    /** Rows of these heights, which are kept as the signs tell: k or a point. */
    private static TableWright kept(String signs, int... heights) {
        TableWright x = high(heights);
        for (int row = 0; row < heights.length; row++) {
            x.keep(row, signs.charAt(row) == 'k');
        }
        due("whether it is laid out", true, x.paper(10, 10) > 0);
        return x;
    }

    private static void onPages(TableWright x, int... pages) {
        for (int row = 0; row < pages.length; row++) {
            due("page of row " + row, pages[row], x.ofRow(row, 1));
        }
        due("rows", pages.length, x.many(1));
    }

    private static void notesOnPages(TableWright x, int... pages) {
        for (int row = 0; row < pages.length; row++) {
            due("page of note " + row, pages[row], x.ofRow(row, 2));
        }
    }

    private static void groups() {
        sentence("A ROW that is KEPT, and the one ahead of which is not, the next one, and so on up to the first one that is not KEPT (or the last ROW) are a GROUP;");
        onPages(kept(".k..", 4, 2, 2, 1), 0, 1, 1, 1);
        // The first that is not kept is of it, the one behind that is not.
        onPages(kept(".k..", 3, 2, 2, 1), 0, 0, 0, 1);
        onPages(kept(".kk.", 3, 2, 1, 2), 0, 1, 1, 1);
        // Row 0 has none ahead, and begins a group; so row 1 does not.
        onPages(kept("kk.", 3, 3, 3), 0, 0, 1);
        // Two groups, one right behind the other.
        onPages(kept("k.k.", 2, 2, 2, 2), 0, 0, 1, 1);
        sentence("(or the last ROW)");
        onPages(kept(".kk", 4, 2, 2), 0, 1, 1);
        onPages(kept(".k", 4, 3), 0, 0);
        onPages(kept("kkk", 2, 2, 3), 0, 0, 0);
        TableWright x = kept(".k.", 4, 3, 4);
        onPages(x, 0, 1, 1);
        x.cut(2);
        onPages(x, 0, 0);
        x.keep(1, false);
        x.row();
        x.text(2, 0, 40, 0);
        onPages(x, 0, 0, 1);
        x.keep(1, true);
        onPages(x, 0, 1, 1);
        sentence("each ROW that is in none of these is a GROUP by itself.");
        onPages(kept("....", 3, 3, 1, 1), 0, 0, 0, 1);
        groupsEndPages();
        groupsThatFitNoPage();
    }

    private static void groupsEndPages() {
        sentence("But a GROUP of which the first ROW is the next one, and which has not ROOM for all its HEIGHTS together (NOTES aside), ends the PAGE,");
        onPages(kept(".k.", 3, 2, 2), 0, 0, 0);
        onPages(kept(".k.", 3, 2, 3), 0, 1, 1);
        // A row inside a group begins none: it goes where it has room.
        onPages(kept(".kk.", 1, 4, 2, 5), 0, 0, 0, 1);
        sentence("(NOTES aside)");
        TableWright x = kept(".k.", 1, 2, 2);
        x.note(1, 5);
        onPages(x, 0, 0, 0);
        notesOnPages(x, -1, 1, -1);
        x.note(1, 3);
        onPages(x, 0, 0, 1);
        notesOnPages(x, -1, 0, -1);
        sentence("if there is a ROW on the PAGE,");
        TableWright y = kept(".k.", 7, 2, 3);
        y.note(0, 5);
        onPages(y, 0, 1, 2);
        notesOnPages(y, 1, -1, -1);
        due("left behind the note and a row", 0, y.ofPage(1, 3));
    }

    private static void groupsThatFitNoPage() {
        sentence("and it would have ROOM on an empty one.");
        onPages(kept(".k.", 1, 4, 3), 0, 1, 1);
        onPages(kept(".k.", 1, 4, 4), 0, 0, 1);
        onPages(kept("k.", 7, 7), 0, 1);
        TableWright x = numbers(1, 30);
        for (int row = 0; row < 30; row++) {
            x.keep(row, true);
        }
        due("pages of one group of 30", 5, x.paper(10, 10));
        due("rows on the first", 7, x.ofPage(0, 1));
        due("rows on the last", 2, x.ofPage(4, 1));
        due("paper() with room for all", 1, x.paper(10, 33));
        x.keep(0, false);
        due("a group of 29 behind a row", 0, x.ofRow(29, 1));
        due("paper() with room for 29", 2, x.paper(10, 32));
        due("the last of the group", 1, x.ofRow(29, 1));
        due("the first of the group", 1, x.ofRow(1, 1));
    }

    // ---- terms 3: rows and notes that fill pages with room for 7 lines

    private static TableWright noted(int[] heights, int... lines) {
        TableWright x = high(heights);
        for (int row = 0; row < lines.length; row++) {
            x.note(row, lines[row]);
        }
        due("whether it is laid out", true, x.paper(10, 10) > 0);
        return x;
    }

    private static int[] rows(int... heights) {
        return heights;
    }

    private static void filling() {
        sentence("Then, as long as the next ROW has ROOM for its HEIGHT: it goes there,");
        onPages(high7(4, 3), 0, 0);
        onPages(high7(4, 4), 0, 1);
        onPages(high7(6, 1, 1), 0, 0, 1);
        onPages(high7(7, 7, 7), 0, 1, 2);
        // One that has no room ends the page for those behind it, too.
        onPages(high7(5, 3, 1), 0, 1, 1);
        sentence("If a ROW has not ROOM on an empty PAGE, the table does not FIT.");
        for (int row = 0; row < 3; row++) {
            int[] heights = {1, 1, 1};
            heights[row] = 7;
            TableWright x = high(heights);
            due("just room", true, x.paper(10, 10) > 0);
            x.text(row, 0, 71, 0);
            due("1 line more", -1, x.many(2));
            due("page", -1, x.ofRow(0, 1));
            due("upright", -1, x.pagesWith(10, 10, false));
            due("1 line more of room", true, x.pagesWith(10, 11, false) > 0);
        }
    }

    private static TableWright high7(int... heights) {
        TableWright x = high(heights);
        due("whether it is laid out", true, x.paper(10, 10) > 0);
        return x;
    }

    private static void notes() {
        noteBehindItsRow();
        firstOfThoseThatWait();
        overSeveralPages();
        notesAlone();
        noteOfNoLines();
    }

    private static void noteBehindItsRow() {
        sentence("and its NOTE behind it, if that has ROOM, and no NOTE waits; otherwise that waits.");
        TableWright x = noted(rows(2), 5);
        notesOnPages(x, 0);
        due("just room", 0, x.ofPage(0, 3));
        TableWright y = noted(rows(3), 5);
        notesOnPages(y, 1);
        due("1 line too few", 4, y.ofPage(0, 3));
        due("pages", 2, y.many(2));
        // The second one has room, but the first one waits.
        TableWright z = noted(rows(4, 1), 5, 1);
        onPages(z, 0, 0);
        notesOnPages(z, 1, 1);
        due("left", 2, z.ofPage(0, 3));
        due("notes elsewhere", 2, z.many(7));
        z.note(0, 0);
        notesOnPages(z, -1, 0);
    }

    private static void firstOfThoseThatWait() {
        sentence("Each begins with those NOTES that wait, in their order, as long as the first of these has ROOM (others may go on waiting).");
        TableWright x = noted(rows(5, 1, 1), 3, 4, 1);
        onPages(x, 0, 0, 0);
        notesOnPages(x, 1, 1, 2);
        due("just room for two", 0, x.ofPage(1, 3));
        x.note(1, 5);
        // The third one has room on page 1, but is not the first of those that wait.
        notesOnPages(x, 1, 2, 2);
        due("left on page 1", 4, x.ofPage(1, 3));
        due("left on page 2", 1, x.ofPage(2, 3));
        x.note(1, 3);
        notesOnPages(x, 1, 1, 1);
        due("left on page 1", 0, x.ofPage(1, 3));
    }

    private static void overSeveralPages() {
        sentence("(others may go on waiting)");
        TableWright x = noted(rows(1, 1, 1, 1, 1, 1), 5, 5, 5, 5, 5, 5);
        // Each page has room for one that waits, and for two rows.
        onPages(x, 0, 0, 1, 1, 2, 2);
        notesOnPages(x, 0, 1, 2, 3, 4, 5);
        due("pages", 6, x.many(2));
        due("notes elsewhere", 4 + 1, x.many(7));
        // Two pages with notes alone, and a row behind them.
        x.text(4, 0, 70, 0);
        onPages(x, 0, 0, 1, 1, 4, 5);
        notesOnPages(x, 0, 1, 2, 3, 5, 6);
        for (int page = 2; page <= 3; page++) {
            due("first row of page " + page, -1, x.ofPage(page, 0));
            due("rows on page " + page, 0, x.ofPage(page, 1));
            due("notes on page " + page, 1, x.ofPage(page, 2));
            due("left on page " + page, 2, x.ofPage(page, 3));
        }
    }

    private static void notesAlone() {
        sentence("Behind the last ROW PAGES with NOTES alone come, as long as some wait.");
        TableWright x = noted(rows(3, 1, 1, 1, 1), 5, 5, 5, 5, 5);
        due("pages", 6, x.many(2));
        for (int page = 1; page <= 5; page++) {
            due("first row", -1, x.ofPage(page, 0));
            due("notes", 1, x.ofPage(page, 2));
            due("read: title and note", 2, x.ofPage(page, 4));
            due("page of the note", page, x.ofRow(page - 1, 2));
        }
        due("no page behind", INDEX, thrownBy(() -> x.ofPage(6, 0)));
        due("pages without a note", 1, high7(7).many(2));
        due("pages with a note that has room", 1, noted(rows(6), 1).many(2));
        due("pages with a note that waits", 2, noted(rows(7), 1).many(2));
        TableWright most = new TableWright();
        most.column(true, 10);
        for (int row = 0; row < 30; row++) {
            most.row();
            most.text(row, 0, 70, 0);
            most.note(row, 5);
        }
        due("the most pages", 60, most.paper(10, 10));
        due("row on the last but one", 29, most.ofPage(58, 0));
        due("note on the last", 1, most.ofPage(59, 2));
        sentence("(A NOTE always has ROOM on an empty one.)");
        TableWright y = noted(rows(7), 5);
        due("5 lines of 7", 2, y.ofPage(1, 3));
        due("pages", 2, y.many(2));
    }

    private static void noteOfNoLines() {
        sentence("and have a NOTE, 0 to 5 lines (0 at first: none).");
        TableWright x = high7(7, 1);
        due("lines at first", 0, x.many(6));
        due("none at first", -1, x.ofRow(0, 2));
        due("note()", 0, x.note(0, 5));
        due("a note of 5 waits", 1, x.ofRow(0, 2));
        due("note()", 5, x.note(0, 0));
        due("none", -1, x.ofRow(0, 2));
        due("notes on the first", 0, x.ofPage(0, 2));
        due("read: title and cell", 2, x.ofPage(0, 4));
        due("none elsewhere", 0, x.many(7));
        // A row without one is no note that waits.
        x.note(1, 1);
        due("behind one without", 1, x.ofRow(1, 2));
        due("behind one without", 1, x.ofRow(1, 1));
    }

    // ---- terms 4

    private static void uprightAndTurned() {
        sentence("It is laid out UPRIGHT, with WIDE as the width and HIGH as the lines, if it FITS so, and, if it FITS turned, too, it has not more PAGES than turned;");
        // Room for 17 lines one way, for 9 the other way.
        laid(9, 12, 20, 1, 0);
        laid(9, 20, 12, 1, 0);
        laid(10, 12, 20, 1, 0);
        laid(10, 20, 12, 1, 1);
        laid(17, 20, 12, 1, 1);
        laid(18, 20, 12, 2, 0);
        laid(18, 12, 20, 2, 0);
        laid(19, 12, 20, 2, 0);
        laid(19, 20, 12, 2, 1);
        laid(30, 10, 10, 5, 0);
        sentence("otherwise TURNED, if it FITS so; otherwise it is not laid out.");
        TableWright x = new TableWright();
        x.column(false, 12);
        withRows(x, 20);
        due("upright alone, though with more pages", 3, x.paper(12, 11));
        due("upright", 0, x.many(3));
        due("turned alone, though with more pages", 3, x.paper(11, 12));
        due("turned", 1, x.many(3));
        due("both", 3, x.paper(12, 12));
        due("upright", 0, x.many(3));
        due("neither", -1, x.paper(11, 11));
        due("neither upright nor turned", -1, x.many(3));
        turnedForItsRoom();
    }

    private static void laid(int rows, int wide, int high, int pages, int turned) {
        TableWright x = numbers(1, rows);
        String what = rows + " rows on " + wide + " and " + high;
        due("pages of " + what, pages, x.paper(wide, high));
        due("turned, of " + what, turned, x.many(3));
    }

    private static void turnedForItsRoom() {
        // Upright 10 wide, the row is 8 high, 1 too many; turned, 11 wide, it is just 8 high and has room for 7.
        TableWright x = high(8);
        due("in neither", -1, x.paper(10, 10));
        due("upright has room for 8", 1, x.paper(10, 11));
        due("upright", 0, x.many(3));
        // Upright 11 wide it is 8 high, and has room for 7; turned 10 wide, and has room for 8.
        due("turned has room for 8", 1, x.paper(11, 10));
        due("turned", 1, x.many(3));
        due("height", 8, x.ofRow(0, 0));
    }

    private static void pages() {
        carriedOnPagesWithoutRows();
        readAloud();
    }

    private static void carriedOnPagesWithoutRows() {
        sentence("is its SUM up to the last ROW on this PAGE, or, if it has none, on one ahead.");
        TableWright x = high(1, 1, 1, 1, 7);
        x.column(false, 2);
        for (int row = 0; row < 5; row++) {
            x.number(row, 1, 1 << row);
            x.note(row, 5);
        }
        due("pages", 6, x.paper(13, 10));
        int[] rows = {2, 2, 0, 0, 1, 0};
        int[] carried = {3, 15, 15, 15, 31, 31};
        for (int page = 0; page < 6; page++) {
            due("rows on page " + page, rows[page], x.ofPage(page, 1));
            due("carried on page " + page, carried[page], x.carried(page, 1));
            due("carried of a text", -1, x.carried(page, 0));
        }
    }

    private static void readAloud() {
        sentence("on all but the first PAGE, what was CARRIED on the one ahead, COLUMN by COLUMN that is no TEXT; each CELL of its ROWS that is not HIDDEN; each NOTE on it: 1 each.");
        TableWright x = texts(2, 8);
        x.column(false, 1);
        x.formula(2, 2, 2, 1);
        x.column(true, 1);
        x.note(7, 5);
        due("pages", 2, x.paper(10, 10));
        due("the first", 5 + 7 * 5, x.ofPage(0, 4));
        due("another one", 5 + 2 + 5 + 1, x.ofPage(1, 4));
        x.span(0, 0, true);
        due("less what is hidden", 5 + 7 * 5 - 1, x.ofPage(0, 4));
        due("not on another one", 5 + 2 + 5 + 1, x.ofPage(1, 4));
        x.note(7, 0);
        due("less the note", 5 + 2 + 5, x.ofPage(1, 4));
        TableWright y = texts(1, 8);
        y.paper(10, 10);
        due("texts alone carry nothing", 1 + 1, y.ofPage(1, 4));
        TableWright z = numbers(6, 8);
        z.paper(11, 10);
        due("numbers alone", 6 + 6 + 6, z.ofPage(1, 4));
        due("numbers alone, the first", 6 + 7 * 6, z.ofPage(0, 4));
    }

    // ---- the promises' own edges

    private static void promises() {
        newObject();
        cuts();
        sumsWithoutRows();
        writesTellWhatWas();
        papersThatDoNotFit();
        cellsOfWhatIsNotLaidOut();
        columnsOfWhatIsNotLaidOut();
        rowsOfWhatIsNotLaidOut();
        pagesOfWhatIsNotLaidOut();
        manyOfWhatIsNotLaidOut();
        meanLeft();
        lastCalls();
    }

    private static void newObject() {
        sentence("Creates a table without COLUMNS and ROWS.");
        notLaidOut(new TableWright(), 0, 0, 0);
        TableWright x = numbers(2, 2);
        TableWright y = new TableWright();
        due("columns of another one", 0, y.many(0));
        due("rows of another one", 0, y.many(1));
        y.paper(10, 10);
        due("the first column", 0, y.column(true, 1));
        due("the first row", 0, y.row());
        due("what the other one has", 2, x.many(1));
    }

    private static void cuts() {
        sentence("Takes a ROW away; those behind it have a number less then.");
        for (int row = 0; row < 3; row++) {
            TableWright x = numbers(1, 3);
            int[] left = {100, 200, 300};
            for (int i = 0; i < 3; i++) {
                x.number(i, 0, left[i]);
                x.note(i, i + 1);
                x.keep(i, i == 1);
            }
            due("cut(" + row + ")", 2, x.cut(row));
            for (int i = 0; i < 2; i++) {
                int was = i < row ? i : i + 1;
                due("value", left[was], x.cell(i, 0, 0));
                due("note", was + 1, x.note(i, 0));
                due("kept", was == 1, x.keep(i, false));
            }
        }
        TableWright y = numbers(1, 1);
        y.number(0, 0, 77);
        y.note(0, 3);
        y.keep(0, true);
        due("cut() of the only one", 0, y.cut(0));
        due("not laid out", -1, y.many(2));
        due("lines of notes", 0, y.many(6));
        due("row()", 0, y.row());
        due("value of a new one", 0, y.cell(0, 0, 0));
        due("note of a new one", 0, y.note(0, 0));
        due("kept, of a new one", false, y.keep(0, false));
        TableWright z = texts(2, 1);
        z.text(0, 0, 25, 9);
        z.span(0, 0, true);
        due("cut() of the only one", 0, z.cut(0));
        due("row()", 0, z.row());
        due("length of a new one", 0, z.cell(0, 0, 0));
        due("hidden, of a new one", 0, z.cell(0, 1, 2));
        due("word of a new one", 1, z.ofColumn(0, 1));
        due("best of a new one", 1, z.ofColumn(0, 2));
    }

    private static void sumsWithoutRows() {
        sentence("4 its SUM up to the last ROW (NONE of a TEXT; of all others 0 without ROWS)");
        TableWright x = new TableWright();
        x.column(false, 1);
        x.column(true, 1);
        x.formula(3, 0, 0, 1);
        for (int round = 0; round < 2; round++) {
            due("of a number without rows", 0, x.ofColumn(0, 4));
            due("of a text without rows", -1, x.ofColumn(1, 4));
            due("of a formula without rows", 0, x.ofColumn(2, 4));
            x.row();
            x.number(0, 0, 9);
            due("of a number", 9, x.ofColumn(0, 4));
            due("of a text", -1, x.ofColumn(1, 4));
            x.cut(0);
        }
        TableWright y = numbers(1, 2);
        y.number(1, 0, -1);
        due("a sum of -1 is no NONE", -1, y.ofColumn(0, 4));
        due("a sum of 0", 0, y.cell(0, 0, 3));
    }

    /** Two pages of room for 7, a note of 5 that waits, and a text that can make the table too high. */
    private static TableWright justLaidOut() {
        TableWright x = high(7, 1);
        x.column(false, 2);
        x.number(1, 1, 40);
        x.note(0, 5);
        due("paper()", 2, x.paper(13, 10));
        return x;
    }

    private static void papersThatDoNotFit() {
        sentence("Returns on how many PAGES it is laid out then; NONE if it is not.");
        TableWright x = justLaidOut();
        due("paper() too narrow", -1, x.paper(12, 12));
        x.text(0, 0, 71, 0);
        due("paper() too low", -1, x.paper(13, 10));
        due("paper() 1 line higher", 2, x.paper(13, 11));
        due("paper() turned", 2, x.paper(11, 13));
        due("paper() too narrow again", -1, x.paper(12, 12));
        due("it stays so", -1, x.many(2));
    }

    private static void cellsOfWhatIsNotLaidOut() {
        sentence("1 its HEIGHT as it is laid out (NONE if it is not), 2 1 if it is HIDDEN, otherwise 0, 3 the SUM up to it (NONE of a TEXT)");
        TableWright x = justLaidOut();
        x.column(true, 1);
        x.column(true, 1);
        x.span(1, 2, true);
        due("paper()", 2, x.paper(17, 10));
        int[][] facts = {{10, 1, 0, -1}, {40, 1, 0, 40}, {0, 1, 0, -1}, {0, 0, 1, -1}};
        for (int round = 0; round < 2; round++) {
            for (int column = 0; column < 4; column++) {
                for (int what = 0; what <= 3; what++) {
                    int want = round == 1 && what == 1 ? -1 : facts[column][what];
                    due("column " + column + ", cell() of " + what, want, x.cell(1, column, what));
                }
            }
            due("paper() too narrow", -1, x.paper(16, 16));
        }
    }

    private static void columnsOfWhatIsNotLaidOut() {
        sentence("3 its WIDTH as it is laid out (NONE if it is not),");
        TableWright x = justLaidOut();
        due("width", 10, x.ofColumn(0, 3));
        x.text(0, 0, 71, 0);
        due("width, 1 line too high", -1, x.ofColumn(0, 3));
        due("width of a number", -1, x.ofColumn(1, 3));
        due("kind all the same", 1, x.ofColumn(0, 0));
        due("least all the same", 10, x.ofColumn(0, 1));
        due("best all the same", 30, x.ofColumn(0, 2));
        due("sum all the same", 40, x.ofColumn(1, 4));
    }

    private static void rowsOfWhatIsNotLaidOut() {
        sentence("2 the PAGE of its NOTE (NONE without one); all NONE if it is not laid out");
        TableWright x = justLaidOut();
        due("page of a note", 1, x.ofRow(0, 2));
        due("without one", -1, x.ofRow(1, 2));
        due("page of its row", 0, x.ofRow(0, 1));
        x.text(0, 0, 71, 0);
        for (int row = 0; row < 2; row++) {
            for (int what = 0; what <= 2; what++) {
                due("row " + row + ", ofRow() of " + what, -1, x.ofRow(row, what));
            }
        }
    }

    private static void pagesOfWhatIsNotLaidOut() {
        sentence("if there is no such PAGE (so if it is not laid out)");
        TableWright x = justLaidOut();
        due("left on the last", 1, x.ofPage(1, 3));
        due("the last and 1", INDEX, thrownBy(() -> x.ofPage(2, 3)));
        x.text(0, 0, 71, 0);
        due("ofPage()", INDEX, thrownBy(() -> x.ofPage(0, 3)));
        due("carried()", INDEX, thrownBy(() -> x.carried(0, 1)));
        sentence("0 its first ROW (NONE without any), 1 how many ROWS, 2 how many NOTES,");
        TableWright y = noted(rows(7, 7), 5, 0);
        int[][] facts = {{0, 1, 0}, {-1, 0, 1}, {1, 1, 0}};
        for (int page = 0; page < 3; page++) {
            for (int what = 0; what <= 2; what++) {
                due("page " + page + ", ofPage() of " + what, facts[page][what], y.ofPage(page, what));
            }
        }
        sentence("Returns what is CARRIED on it; NONE of a TEXT.");
        TableWright z = justLaidOut();
        due("of a text", -1, z.carried(0, 0));
        due("a sum of 0", 0, z.carried(0, 1));
        due("a sum", 40, z.carried(1, 1));
        z.number(0, 1, -1);
        due("a sum of -1 is no NONE", -1, z.carried(0, 1));
    }

    private static void manyOfWhatIsNotLaidOut() {
        sentence("2 PAGES (NONE if it is not laid out), 3 0 UPRIGHT, 1 TURNED, NONE if it is not laid out, 4 how wide the table is then (NONE), 5 the HEIGHTS of all ROWS together (NONE), 6 lines of NOTES, 7 NOTES that are not on the PAGE of their ROW (NONE)");
        TableWright x = justLaidOut();
        int[][] facts = {{2, 2, 2, 0, 13, 8, 5, 1}, {2, 2, -1, -1, -1, -1, 5, -1}};
        for (int round = 0; round < 2; round++) {
            for (int what = 0; what <= 7; what++) {
                due("many(" + what + ")", facts[round][what], x.many(what));
            }
            x.text(0, 0, 71, 0);
        }
    }

    private static void writesTellWhatWas() {
        sentence("how many lines its NOTE has from now on");
        TableWright x = high7(2, 1);
        due("notes at first", 0, x.ofPage(0, 2));
        due("note() of the most", 0, x.note(0, 5));
        due("it stands at once", 0, x.ofRow(0, 2));
        due("left behind it", 0, x.ofPage(0, 3));
        due("the row behind it", 1, x.ofRow(1, 1));
        due("note() of none", 5, x.note(0, 0));
        due("none stands at once", 4, x.ofPage(0, 3));
        sentence("whether it is KEPT with the next one from now on");
        TableWright y = high7(4, 2, 2);
        onPages(y, 0, 0, 1);
        due("keep()", false, y.keep(1, true));
        onPages(y, 0, 1, 1);
        due("keep() once more", true, y.keep(1, true));
        onPages(y, 0, 1, 1);
        due("keep() no more", true, y.keep(1, false));
        onPages(y, 0, 0, 1);
        due("keep() no more, once more", false, y.keep(1, false));
        sentence("whether it is to SPAN (it does only as long as 1 says)");
        TableWright z = texts(3, 1);
        due("span() of the second", true, z.span(0, 1, true));
        due("span() of the first", true, z.span(0, 0, true));
        due("the second does not, as it is hidden", 0, z.cell(0, 2, 2));
        due("span() of the first no more", false, z.span(0, 0, false));
        due("the second does again", 1, z.cell(0, 2, 2));
    }

    private static void meanLeft() {
        sentence("Returns the mean number of lines of the ROOM that are left on a PAGE, not cut; 0 without PAGES.");
        due("without pages", 0.0, new TableWright().meanLeft());
        due("of a full page", 0.0, high7(7).meanLeft());
        due("of one page", 6.0, high7(1).meanLeft());
        due("not cut", 0.5, high7(7, 6).meanLeft());
        due("not cut, of three", 5 / 3.0, high7(7, 7, 2).meanLeft());
        TableWright x = high7(7, 6);
        x.text(1, 0, 80, 0);
        due("without pages any more", 0.0, x.meanLeft());
        TableWright y = high7(7, 1);
        y.cut(0);
        due("of one page, of two that were", 6.0, y.meanLeft());
    }

    private static void lastCalls() {
        sentence("An object is used for at most 512 calls after it has been made;");
        TableWright x = new TableWright();
        x.column(false, 1);
        x.row();
        for (int call = 3; call < 512; call++) {
            int before = call == 3 ? 0 : call - 1;
            due("call " + call, before, x.number(0, 0, call));
        }
        due("call 512", 511, x.cell(0, 0, 0));
    }

    // ---- promises 19 to 21

    private static void whatWouldBe() {
        justSo();
        onlyNowOrOnlyThen();
        withoutTheOnlyOne();
        nothingIsChanged();
    }

    private static void justSo() {
        sentence("Returns on how many PAGES it would be laid out just so; NONE if it does not FIT.");
        TableWright x = numbers(1, 20);
        due("upright, with more pages than turned", 2, x.pagesWith(20, 15, false));
        due("turned, with less", 2, x.pagesWith(20, 15, true));
        due("upright, with more pages than turned", 3, x.pagesWith(60, 10, false));
        due("turned, with less", 1, x.pagesWith(60, 10, true));
        due("the other way round", 1, x.pagesWith(10, 60, false));
        due("the other way round, turned", 3, x.pagesWith(10, 60, true));
        TableWright y = high(7);
        due("just room", 1, y.pagesWith(10, 10, false));
        y.text(0, 0, 71, 0);
        due("1 line too few", -1, y.pagesWith(10, 10, true));
    }

    private static void onlyNowOrOnlyThen() {
        sentence("(each PAGE that there is only now, or only then, counts, too).");
        // 8 + 1 + 1: a number of 2 letters makes the text 7 wide, and row 1 too high for page 0.
        TableWright x = texts(1, 2);
        x.column(false, 1);
        x.text(0, 0, 24, 0);
        x.text(1, 0, 32, 0);
        due("pages", 1, x.paper(10, 10));
        due("what is there already", 0, x.changedBy(0, 1, 0));
        due("carried alone", 1, x.changedBy(0, 1, 1));
        due("one that is only then", 2, x.changedBy(0, 1, 10));
        due("none then", 1, x.changedBy(0, 1, -9999));
        x.number(0, 1, 10);
        due("pages", 2, x.many(2));
        due("one that is only now", 2, x.changedBy(0, 1, 0));
        due("none then", 2, x.changedBy(0, 1, -9999));
        x.number(0, 1, -9999);
        due("not laid out", -1, x.many(2));
        due("none now, one then", 1, x.changedBy(0, 1, 0));
        due("none now, two then", 2, x.changedBy(0, 1, 10));
        due("none now, none then", 0, x.changedBy(0, 1, -9998));
        pagesThatWere();
        otherRowsOrOtherCarried();
    }

    private static void pagesThatWere() {
        // 7 wide, each row has a page; 8 wide, each two rows have one.
        TableWright x = texts(1, 4);
        x.column(false, 1);
        for (int row = 0; row < 4; row++) {
            x.text(row, 0, row % 2 == 0 ? 21 : 24, 0);
        }
        x.number(3, 1, 100);
        due("four pages", 4, x.paper(10, 10));
        due("the same four", 0, x.changedBy(3, 1, 100));
        due("two with other rows, two that are only now", 4, x.changedBy(3, 1, 10));
        x.number(3, 1, 10);
        due("two pages", 2, x.many(2));
        due("two with other rows, two that are only then", 4, x.changedBy(3, 1, 100));
    }

    private static void otherRowsOrOtherCarried() {
        sentence("Returns how many PAGES would have other ROWS, or other CARRIED, if that was written");
        // A number of 3 letters makes the text 6 wide: the second row goes to the second page then.
        TableWright x = texts(1, 3);
        x.column(false, 1);
        x.text(0, 0, 28, 0);
        x.text(1, 0, 21, 0);
        x.text(2, 0, 7, 0);
        x.number(2, 1, 10);
        due("paper()", 2, x.paper(10, 10));
        due("other carried on the second alone", 1, x.changedBy(2, 1, 11));
        due("other rows on the first, the same carried", 2, x.changedBy(2, 1, 100));
        TableWright full = numbers(4, 30);
        full.formula(4, 2, 3, 1);
        full.formula(3, 4, 2, 1);
        full.number(0, 3, 1);
        due("paper()", 2, full.paper(18, 18));
        due("all of 6 columns and 30 rows", 2, full.changedBy(0, 2, 1));
        due("the last row, of the last page", 1, full.changedBy(29, 0, 1));
        due("the first row of the last page", 1, full.changedBy(15, 1, -1));
        due("the last row of the first page", 2, full.changedBy(14, 1, -1));
        due("pagesWithout() of the last", 2, full.pagesWithout(29));
        // Of a row on the second page the first one has the same rows and the same carried.
        TableWright y = numbers(1, 20);
        y.paper(10, 10);
        due("the first row of the second", 2, y.changedBy(7, 0, 1));
        due("the last row of the first", 3, y.changedBy(6, 0, 1));
    }

    private static void withoutTheOnlyOne() {
        sentence("Returns on how many PAGES it would be laid out without that; NONE if it would not be.");
        due("without the only one", -1, high7(1).pagesWithout(0));
        TableWright x = high7(7, 7);
        due("without the first", 1, x.pagesWithout(0));
        due("without the last", 1, x.pagesWithout(1));
        x.text(1, 0, 71, 0);
        due("without one that was too high", 1, x.pagesWithout(1));
        due("with it", -1, x.pagesWithout(0));
        TableWright y = numbers(1, 29);
        y.row();
        y.paper(10, 32);
        due("pages of 30", 2, y.many(2));
        due("without the last of 30", 1, y.pagesWithout(29));
        due("without the first of 30", 1, y.pagesWithout(0));
        withoutOneOfMany();
    }

    private static void withoutOneOfMany() {
        // Without row 2 those beside it are one group, which fits no page, and so is filled as it comes.
        TableWright z = kept(".k.k..", 1, 2, 1, 3, 3, 2);
        due("pages", 3, z.many(2));
        due("without the end of a group", 2, z.pagesWithout(2));
        due("without the first row of a group", 3, z.pagesWithout(1));
        // The note of the first waits, and so has a page of its own.
        TableWright y = noted(rows(6, 1), 5, 0);
        due("without the one behind it", 2, y.pagesWithout(1));
        due("without the one that has the note", 1, y.pagesWithout(0));
        // A word, a number and a formula are each as wide as the paper lets them be.
        TableWright x = texts(1, 3);
        x.column(false, 1);
        x.formula(4, 1, 1, 1);
        x.text(1, 0, 4, 4);
        x.number(2, 1, 99);
        due("4 + 1 + 2 + 1 + 4", -1, x.paper(10, 10));
        due("without the word", 1, x.pagesWithout(1));
        due("without the number", 1, x.pagesWithout(2));
        due("with both", -1, x.pagesWithout(0));
        due("just wide enough", 1, x.paper(12, 10));
        due("without one of no width", 1, x.pagesWithout(0));
        due("changed by a number of 3", 1, x.changedBy(2, 1, 100));
    }

    private static void nothingIsChanged() {
        sentence("what would be (nothing is changed).");
        Consumer<TableWright> nothing = x -> { };
        Object want = traceBehind(nothing);
        due("behind pagesWith()", want, traceBehind(x -> x.pagesWith(10, 60, true)));
        due("behind pagesWith() that does not fit", want, traceBehind(x -> x.pagesWith(10, 10, false)));
        due("behind changedBy()", want, traceBehind(x -> x.changedBy(1, 2, 9999)));
        due("behind pagesWithout() of the first", want, traceBehind(x -> x.pagesWithout(0)));
        due("behind pagesWithout() of the last", want, traceBehind(x -> x.pagesWithout(2)));
        due("behind digest()", want, traceBehind(x -> x.digest()));
    }

    private static Object traceBehind(Consumer<TableWright> call) {
        TableWright x = texts(2, 3);
        x.column(false, 4);
        x.formula(4, 2, 2, 3);
        for (int row = 0; row < 3; row++) {
            x.text(row, 0, 40 * row + 20, row);
            x.text(row, 1, 9 * row + 5, 2 * row + 1);
            x.number(row, 2, 30 * row - 20);
            x.note(row, 5 - row);
        }
        x.span(1, 0, true);
        x.keep(1, true);
        x.paper(30, 12);
        call.accept(x);
        return trace(x);
    }

    // ---- promise 22

    private static void digest() {
        sentence("for each of the following numbers v, d becomes d * 31 + v, which wraps around as a 64-bit integer:");
        due("of a new object", -7704255838521152986L, new TableWright().digest());
        // many; ofColumn; ofRow; cell; ofPage; carried; pagesWith
        wrapped(numbers(1, 0), 1, 0, -1, -1, -1, -1, 0, -1, 0, 1, 1, -1, 0, -1, -1);
        wrapped(numbers(1, 1), 1, 1, 1, 0, 1, 1, 0, 0, 0, 1, 1, 1, 0, 1, 0, -1,
                0, 1, 0, 0, 0, 1, 0, 26, 2, 0, 1, 1);
        wrapped(withRows(new TableWright(), 1), 0, 1, -1, -1, -1, -1, 0, -1, -1, -1, -1, -1, -1);
        TableWright x = texts(1, 1);
        x.text(0, 0, 71, 9);
        x.note(0, 2);
        // 71 letters are 3 lines of 30, and 4 of 20.
        wrapped(x, 1, 1, 1, 0, 30, 3, 2, 0, 1, 9, 30, 30, -1, 3, 0, 0, 71, 3, 0, -1,
                0, 1, 1, 22, 3, -1, 1, 1);
    }

    /** The sum is reckoned in full, and then cut to 64 bits; it is far beyond these. */
    private static void wrapped(TableWright x, long... numbers) {
        BigInteger d = BigInteger.valueOf(58119);
        for (long v : numbers) {
            d = d.multiply(BigInteger.valueOf(31)).add(BigInteger.valueOf(v));
        }
        due("whether it wraps around", true, d.bitLength() > 63);
        due("digest()", d.longValue(), x.digest());
        due("digest() once more", d.longValue(), x.digest());
    }
}
