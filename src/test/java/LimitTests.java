import java.io.IOException;
import java.util.HashMap;
import java.util.List;
import java.util.Map;
import java.util.Set;
import java.util.TreeSet;
import java.util.function.Consumer;
import java.util.function.Function;
import java.util.function.Supplier;
import java.util.regex.Matcher;
import java.util.regex.Pattern;

/**
 * The document's lines that begin with "Throws", one by one: each argument at both ends of its
 * limits, just inside and just outside, what is thrown if several exceptions apply, and that
 * nothing has changed then.
 */
public final class LimitTests extends Checks {
    private interface NumberCall {
        Object of(TableWright x, int row, int column, int value);
    }

    private interface CellCall {
        Object of(TableWright x, int row, int column);
    }

    private interface RowCall {
        Object of(TableWright x, int row);
    }

    private interface PaperCall {
        Object of(TableWright x, int wide, int high);
    }

    private static String document = "";
    private static Class<? extends RuntimeException> thrown = STATE;
    private static int calls = 0;
    private static final Set<String> LINES = new TreeSet<>();
    private static final Map<Supplier<TableWright>, List<Object>> TRACES = new HashMap<>();

    private static final Supplier<TableWright> EMPTY = () -> new TableWright();
    private static final Supplier<TableWright> ROWS_ALONE = () -> withRows(new TableWright(), 3);
    private static final Supplier<TableWright> THIRTY_ROWS_ALONE = () -> withRows(new TableWright(), 30);
    private static final Supplier<TableWright> COLUMNS_ALONE = () -> fiveColumns();
    private static final Supplier<TableWright> SIX_COLUMNS_ALONE = () -> sixColumns();
    private static final Supplier<TableWright> MIXED = () -> written(fiveColumns());
    private static final Supplier<TableWright> SIX_COLUMNS = () -> written(sixColumns());
    private static final Supplier<TableWright> FULL = () -> withRows(written(sixColumns()), 27);
    private static final Supplier<TableWright> NOT_LAID_OUT = () -> notLaidOut();

    public static void main(String[] args) throws IOException {
        document = documentAt(args[0]);
        part = "the rules for all calls";
        due("whether the document says so", true, document.contains("A method that throws an exception changes"
                + " nothing. If several exceptions apply, the one that is named first is thrown."));
        traceShowsEachChange();
        column();
        formulaOfNoColumn();
        formulaOfWrongArguments();
        formulaOfSix();
        row();
        rowCalls();
        number();
        text();
        span();
        note();
        paper();
        pagesWith();
        cell();
        ofColumn();
        ofRow();
        ofPage();
        carried();
        many();
        changedBy();
        eachLineIsTested();
        finish("LimitTests");
    }

    // ---- the tables that the calls are made on

    /** A NUMBER, two TEXTS, a FORMULA and a TEXT. */
    private static TableWright fiveColumns() {
        TableWright x = new TableWright();
        x.column(false, 3);
        x.column(true, 4);
        x.column(true, 5);
        x.formula(2, 0, 0, 2);
        x.column(true, 2);
        return x;
    }

    private static TableWright sixColumns() {
        TableWright x = fiveColumns();
        x.column(false, 1);
        return x;
    }

    /** Three rows with all that can be written, on two pages. */
    private static TableWright written(TableWright x) {
        withRows(x, 3);
        x.number(0, 0, 7);
        x.number(1, 0, -20);
        x.number(2, 0, 400);
        x.text(0, 1, 40, 4);
        x.text(0, 2, 10, 3);
        x.text(1, 1, 25, 6);
        x.text(1, 2, 60, 5);
        x.text(2, 4, 33, 7);
        x.span(1, 1, true);
        x.note(0, 2);
        x.note(1, 5);
        x.keep(0, true);
        x.keep(2, true);
        x.paper(40, 14);
        return x;
    }

    private static TableWright notLaidOut() {
        TableWright x = MIXED.get();
        x.text(0, 4, 200, 1);
        return x;
    }

    // ---- how it is told

    /** What follows is of this line of the document. */
    private static void line(int promise, Class<? extends RuntimeException> exception, String clause) {
        String line = "Throws `" + exception.getSimpleName() + "` " + clause;
        part = "promise " + promise + ", " + line;
        thrown = exception;
        calls = 0;
        LINES.add(promise + " " + exception.getSimpleName());
        due("whether the document says so", true, section(promise).contains(line + " "));
    }

    private static String section(int promise) {
        int start = document.indexOf("## Promise " + promise + ":");
        int end = document.indexOf("## ", start + 3);
        return document.substring(start, end);
    }

    private static void refused(Supplier<TableWright> table, Consumer<TableWright> call) {
        calls++;
        TableWright x = table.get();
        due("what is thrown by call " + calls, thrown, thrownBy(() -> call.accept(x)));
        TRACES.computeIfAbsent(table, t -> trace(t.get()));
        due("all behind call " + calls, TRACES.get(table), trace(x));
    }

    private static void taken(Supplier<TableWright> table, Object want, Function<TableWright, Object> call) {
        calls++;
        due("call " + calls, want, call.apply(table.get()));
    }

    private static int[] outside(int least, int most) {
        return new int[] {LOW, least - 1, most + 1, TOP};
    }

    /** The tests above show that nothing has changed only if a change would show in the trace. */
    private static void traceShowsEachChange() {
        part = "what a trace shows";
        for (Supplier<TableWright> table : List.of(MIXED, NOT_LAID_OUT)) {
            changed(table, x -> x.column(true, 1));
            changed(table, x -> x.column(false, 1));
            changed(table, x -> x.formula(3, 0, 0, 1));
            changed(table, x -> x.row());
            changed(table, x -> x.cut(2));
            changed(table, x -> x.number(1, 0, -21));
            changed(table, x -> x.text(1, 2, 61, 5));
            changed(table, x -> x.text(1, 2, 60, 6));
            changed(table, x -> x.text(1, 1, 25, 7));
            changed(table, x -> x.span(0, 1, true));
            changed(table, x -> x.span(1, 1, false));
            changed(table, x -> x.note(2, 1));
            changed(table, x -> x.keep(1, true));
            changed(table, x -> x.paper(41, 14));
            changed(table, x -> x.paper(40, 15));
        }
        for (Supplier<TableWright> table : List.of(EMPTY, ROWS_ALONE, COLUMNS_ALONE)) {
            changed(table, x -> x.column(false, 1));
            changed(table, x -> x.row());
            changed(table, x -> x.paper(39, 30));
            changed(table, x -> x.paper(40, 31));
        }
        changed(SIX_COLUMNS, x -> x.row());
        changed(FULL, x -> x.paper(40, 15));
    }

    private static void changed(Supplier<TableWright> table, Consumer<TableWright> call) {
        calls++;
        TableWright x = table.get();
        call.accept(x);
        due("whether change " + calls + " shows", false, trace(table.get()).equals(trace(x)));
    }

    private static void eachLineIsTested() {
        part = "the document's lines that begin with Throws";
        Set<String> lines = new TreeSet<>();
        for (int promise = 1; promise <= 22; promise++) {
            Matcher line = Pattern.compile("Throws `(\\w+)`").matcher(section(promise));
            while (line.find()) {
                lines.add(promise + " " + line.group(1));
            }
        }
        due("what is tested", lines, LINES);
    }

    // ---- promises 2 and 3

    private static void column() {
        line(2, ARGUMENT, "if title is not 1 to 12");
        // If there are 6, too, this one is named first.
        for (Supplier<TableWright> table : List.of(EMPTY, MIXED, SIX_COLUMNS, SIX_COLUMNS_ALONE)) {
            for (int title : outside(1, 12)) {
                refused(table, x -> x.column(true, title));
                refused(table, x -> x.column(false, title));
            }
        }
        for (int title : new int[] {1, 12}) {
            taken(EMPTY, 0, x -> x.column(true, title));
            taken(EMPTY, 0, x -> x.column(false, title));
            taken(MIXED, 5, x -> x.column(true, title));
            taken(MIXED, 5, x -> x.column(false, title));
        }
        line(2, STATE, "if there are 6");
        for (Supplier<TableWright> table : List.of(SIX_COLUMNS, SIX_COLUMNS_ALONE, FULL)) {
            refused(table, x -> x.column(true, 1));
            refused(table, x -> x.column(false, 12));
        }
    }

    private static void formulaOfNoColumn() {
        line(3, INDEX, "if there is no such COLUMN");
        refused(EMPTY, x -> x.formula(2, 0, 0, 1));
        refused(ROWS_ALONE, x -> x.formula(4, 0, 0, 12));
        for (int column : outside(0, 4)) {
            refused(MIXED, x -> x.formula(2, column, 0, 1));
            refused(MIXED, x -> x.formula(2, 0, column, 1));
            refused(MIXED, x -> x.formula(2, column, column, 1));
            // Its arguments are wrong, too.
            refused(MIXED, x -> x.formula(1, column, 0, 1));
            refused(MIXED, x -> x.formula(5, 0, column, 1));
            refused(MIXED, x -> x.formula(2, column, 1, 1));
            refused(MIXED, x -> x.formula(2, 1, column, 1));
            refused(MIXED, x -> x.formula(2, column, 0, 0));
            refused(MIXED, x -> x.formula(2, 0, column, 13));
        }
        for (int column : outside(0, 5)) {
            // There are 6, too.
            refused(SIX_COLUMNS, x -> x.formula(2, column, 0, 1));
            refused(SIX_COLUMNS, x -> x.formula(2, 0, column, 1));
            refused(SIX_COLUMNS, x -> x.formula(1, column, 1, 13));
        }
        taken(MIXED, 5, x -> x.formula(2, 0, 3, 1));
        taken(MIXED, 5, x -> x.formula(2, 3, 0, 1));
        taken(COLUMNS_ALONE, 5, x -> x.formula(2, 3, 3, 1));
        taken(() -> numbers(5, 0), 5, x -> x.formula(2, 0, 4, 1));
    }

    private static void formulaOfWrongArguments() {
        line(3, ARGUMENT, "if kind is not 2 to 4, one of these COLUMNS is a TEXT, or title is not 1 to 12");
        // If there are 6, too, this one is named first.
        for (Supplier<TableWright> table : List.of(MIXED, COLUMNS_ALONE, SIX_COLUMNS)) {
            for (int kind : outside(2, 4)) {
                refused(table, x -> x.formula(kind, 0, 0, 1));
            }
            refused(table, x -> x.formula(0, 0, 0, 1));
            refused(table, x -> x.formula(2, 1, 0, 1));
            refused(table, x -> x.formula(2, 0, 1, 1));
            refused(table, x -> x.formula(2, 4, 4, 1));
            for (int title : outside(1, 12)) {
                refused(table, x -> x.formula(2, 0, 0, title));
            }
            refused(table, x -> x.formula(5, 1, 2, 13));
        }
        for (int kind = 2; kind <= 4; kind++) {
            int taken = kind;
            taken(MIXED, 5, x -> x.formula(taken, 0, 0, 1));
            taken(MIXED, 5, x -> x.formula(taken, 3, 3, 12));
        }
    }

    private static void formulaOfSix() {
        line(3, STATE, "if there are 6");
        for (Supplier<TableWright> table : List.of(SIX_COLUMNS, SIX_COLUMNS_ALONE, FULL)) {
            refused(table, x -> x.formula(2, 0, 0, 1));
            refused(table, x -> x.formula(4, 3, 5, 12));
        }
    }

    // ---- promises 4, 5, 10 and 21

    private static void row() {
        line(4, STATE, "if there are 30");
        refused(FULL, x -> x.row());
        refused(THIRTY_ROWS_ALONE, x -> x.row());
        taken(EMPTY, 0, x -> x.row());
        taken(() -> numbers(1, 29), 29, x -> x.row());
        taken(() -> withRows(new TableWright(), 29), 29, x -> x.row());
        taken(FULL, 29, x -> x.cut(0) == 29 ? x.row() : -1);
    }

    private static void rowCalls() {
        line(5, INDEX, "if there is no such ROW");
        noSuchRow((x, row) -> x.cut(row));
        taken(MIXED, 2, x -> x.cut(0));
        taken(MIXED, 2, x -> x.cut(2));
        taken(FULL, 29, x -> x.cut(29));
        taken(ROWS_ALONE, 2, x -> x.cut(2));
        line(10, INDEX, "if there is no such ROW");
        noSuchRow((x, row) -> x.keep(row, true));
        noSuchRow((x, row) -> x.keep(row, false));
        taken(MIXED, true, x -> x.keep(0, false));
        taken(MIXED, true, x -> x.keep(2, false));
        taken(FULL, false, x -> x.keep(29, true));
        line(21, INDEX, "if there is no such ROW");
        noSuchRow((x, row) -> x.pagesWithout(row));
        taken(MIXED, 1, x -> x.pagesWithout(0));
        taken(MIXED, 1, x -> x.pagesWithout(2));
        taken(ROWS_ALONE, -1, x -> x.pagesWithout(2));
    }

    private static void noSuchRow(RowCall call) {
        refused(EMPTY, x -> call.of(x, 0));
        refused(COLUMNS_ALONE, x -> call.of(x, 0));
        for (int row : outside(0, 2)) {
            refused(MIXED, x -> call.of(x, row));
            refused(NOT_LAID_OUT, x -> call.of(x, row));
            refused(ROWS_ALONE, x -> call.of(x, row));
        }
        for (int row : outside(0, 29)) {
            refused(FULL, x -> call.of(x, row));
        }
    }

    private static void noSuchColumn(RowCall call) {
        refused(EMPTY, x -> call.of(x, 0));
        refused(ROWS_ALONE, x -> call.of(x, 0));
        for (int column : outside(0, 4)) {
            refused(MIXED, x -> call.of(x, column));
            refused(NOT_LAID_OUT, x -> call.of(x, column));
            refused(COLUMNS_ALONE, x -> call.of(x, column));
        }
        for (int column : outside(0, 5)) {
            refused(FULL, x -> call.of(x, column));
        }
    }

    /** Of a call that takes a cell: there are not both of its row and its column. */
    private static void noSuchCell(CellCall call) {
        for (int column : new int[] {0, 1, 3}) {
            noSuchRow((x, row) -> call.of(x, row, column));
        }
        for (int row : new int[] {0, 2}) {
            refused(COLUMNS_ALONE, x -> call.of(x, row, 4));
            for (int column : outside(0, 4)) {
                refused(MIXED, x -> call.of(x, row, column));
                refused(NOT_LAID_OUT, x -> call.of(x, row, column));
            }
        }
        refused(ROWS_ALONE, x -> call.of(x, 0, 0));
        for (int column : outside(0, 5)) {
            refused(FULL, x -> call.of(x, 29, column));
            refused(FULL, x -> call.of(x, 30, column));
        }
    }

    // ---- promises 6 to 9

    private static void number() {
        numberCalls(6, (x, row, column, value) -> x.number(row, column, value));
        for (int value : new int[] {-9999, 9999}) {
            taken(MIXED, 7, x -> x.number(0, 0, value));
            taken(MIXED, 400, x -> x.number(2, 0, value));
            taken(FULL, 0, x -> x.number(29, 5, value));
        }
    }

    private static void numberCalls(int promise, NumberCall call) {
        line(promise, INDEX, "if there is no such ROW, or COLUMN");
        // Behind 0 the value is wrong, too, as is the kind of some columns.
        for (int value : new int[] {0, 10000, -10000}) {
            noSuchCell((x, row, column) -> call.of(x, row, column, value));
        }
        line(promise, ARGUMENT, "if the COLUMN is no NUMBER, or value is not -9999 to 9999");
        for (Supplier<TableWright> table : List.of(MIXED, NOT_LAID_OUT, FULL)) {
            for (int column = 1; column <= 4; column++) {
                int wrong = column;
                refused(table, x -> call.of(x, 0, wrong, 0));
                refused(table, x -> call.of(x, 2, wrong, 10000));
            }
            for (int value : outside(-9999, 9999)) {
                refused(table, x -> call.of(x, 0, 0, value));
                refused(table, x -> call.of(x, 2, 0, value));
            }
        }
    }

    private static void text() {
        line(7, INDEX, "if there is no such ROW, or COLUMN");
        noSuchCell((x, row, column) -> x.text(row, column, 1, 1));
        noSuchCell((x, row, column) -> x.text(row, column, 201, 0));
        noSuchCell((x, row, column) -> x.text(row, column, 5, 6));
        line(7, ARGUMENT, "if the COLUMN is no TEXT, length is not 0 to 200, or word is not 0 to 12, or more than length");
        refused(MIXED, x -> x.text(0, 0, 5, 5));
        refused(MIXED, x -> x.text(0, 3, 5, 5));
        for (int length : outside(0, 200)) {
            refused(MIXED, x -> x.text(0, 1, length, 0));
            refused(MIXED, x -> x.text(2, 4, length, 12));
        }
        for (int word : outside(0, 12)) {
            refused(MIXED, x -> x.text(0, 1, 200, word));
            refused(MIXED, x -> x.text(2, 4, 13, word));
        }
        refused(MIXED, x -> x.text(0, 1, 0, 1));
        refused(MIXED, x -> x.text(0, 1, 0, -1));
        refused(MIXED, x -> x.text(0, 1, 5, 6));
        refused(MIXED, x -> x.text(0, 1, 11, 12));
        refused(MIXED, x -> x.text(0, 1, -1, -1));
        taken(MIXED, 40, x -> x.text(0, 1, 0, 0));
        taken(MIXED, 40, x -> x.text(0, 1, 200, 0));
        taken(MIXED, 33, x -> x.text(2, 4, 200, 12));
        taken(MIXED, 33, x -> x.text(2, 4, 12, 12));
        taken(MIXED, 60, x -> x.text(1, 2, 1, 1));
        taken(MIXED, 0, x -> x.text(2, 1, 5, 5));
    }

    private static void span() {
        line(8, INDEX, "if there is no such ROW, or COLUMN");
        noSuchCell((x, row, column) -> x.span(row, column, true));
        noSuchCell((x, row, column) -> x.span(row, column, false));
        // The last column of a row that is not there.
        refused(MIXED, x -> x.span(3, 4, true));
        line(8, ARGUMENT, "if the COLUMN is no TEXT, or the last one");
        for (int column : new int[] {0, 3, 4}) {
            refused(MIXED, x -> x.span(0, column, true));
            refused(MIXED, x -> x.span(2, column, false));
        }
        refused(SIX_COLUMNS, x -> x.span(0, 5, true));
        refused(() -> texts(1, 1), x -> x.span(0, 0, true));
        refused(() -> texts(6, 1), x -> x.span(0, 5, true));
        taken(MIXED, true, x -> x.span(0, 1, true));
        taken(MIXED, false, x -> x.span(1, 1, false));
        taken(MIXED, false, x -> x.span(0, 2, true));
        taken(SIX_COLUMNS, false, x -> x.span(0, 4, true));
        taken(() -> texts(6, 1), true, x -> x.span(0, 4, true));
    }

    private static void note() {
        line(9, INDEX, "if there is no such ROW");
        for (int lines : new int[] {0, 5, -1, 6}) {
            noSuchRow((x, row) -> x.note(row, lines));
        }
        line(9, ARGUMENT, "if lines is not 0 to 5");
        for (int lines : outside(0, 5)) {
            refused(MIXED, x -> x.note(0, lines));
            refused(MIXED, x -> x.note(2, lines));
            refused(ROWS_ALONE, x -> x.note(2, lines));
            refused(FULL, x -> x.note(29, lines));
        }
        for (int lines : new int[] {0, 5}) {
            taken(MIXED, 2, x -> x.note(0, lines));
            taken(MIXED, 0, x -> x.note(2, lines));
        }
    }

    // ---- promises 11 and 19

    private static void paper() {
        line(11, ARGUMENT, "if one of these is not 10 to 60");
        noSuchPaper((x, wide, high) -> x.paper(wide, high));
        for (int end : new int[] {10, 60}) {
            taken(() -> numbers(1, 1), 1, x -> x.paper(end, 10));
            taken(() -> numbers(1, 1), 1, x -> x.paper(end, 60));
            taken(EMPTY, -1, x -> x.paper(end, end));
        }
    }

    private static void pagesWith() {
        line(19, ARGUMENT, "if one of these is not 10 to 60");
        noSuchPaper((x, wide, high) -> x.pagesWith(wide, high, false));
        noSuchPaper((x, wide, high) -> x.pagesWith(wide, high, true));
        for (int end : new int[] {10, 60}) {
            taken(() -> numbers(1, 1), 1, x -> x.pagesWith(end, 10, false));
            taken(() -> numbers(1, 1), 1, x -> x.pagesWith(end, 60, true));
            taken(EMPTY, -1, x -> x.pagesWith(end, end, true));
        }
    }

    private static void noSuchPaper(PaperCall call) {
        for (Supplier<TableWright> table : List.of(EMPTY, MIXED, NOT_LAID_OUT)) {
            for (int wrong : outside(10, 60)) {
                refused(table, x -> call.of(x, wrong, 10));
                refused(table, x -> call.of(x, wrong, 60));
                refused(table, x -> call.of(x, 10, wrong));
                refused(table, x -> call.of(x, 60, wrong));
                refused(table, x -> call.of(x, wrong, wrong));
            }
        }
    }

    // ---- promises 12 to 17

    private static void cell() {
        line(12, INDEX, "if there is no such ROW, or COLUMN");
        for (int what : new int[] {0, 3, -1, 4}) {
            noSuchCell((x, row, column) -> x.cell(row, column, what));
        }
        line(12, ARGUMENT, "if what is not 0 to 3");
        for (int what : outside(0, 3)) {
            refused(MIXED, x -> x.cell(0, 0, what));
            refused(MIXED, x -> x.cell(2, 4, what));
            refused(NOT_LAID_OUT, x -> x.cell(0, 1, what));
        }
        taken(MIXED, 7, x -> x.cell(0, 0, 0));
        taken(MIXED, -1, x -> x.cell(2, 4, 3));
        taken(MIXED, 387, x -> x.cell(2, 0, 3));
    }

    private static void ofColumn() {
        line(13, INDEX, "if there is no such COLUMN");
        for (int what : new int[] {0, 4, -1, 5}) {
            noSuchColumn((x, column) -> x.ofColumn(column, what));
        }
        line(13, ARGUMENT, "if what is not 0 to 4");
        for (int what : outside(0, 4)) {
            refused(MIXED, x -> x.ofColumn(0, what));
            refused(MIXED, x -> x.ofColumn(4, what));
            refused(NOT_LAID_OUT, x -> x.ofColumn(0, what));
            refused(COLUMNS_ALONE, x -> x.ofColumn(0, what));
        }
        taken(MIXED, 0, x -> x.ofColumn(0, 0));
        taken(MIXED, 1, x -> x.ofColumn(4, 0));
        taken(MIXED, 774, x -> x.ofColumn(3, 4));
    }

    private static void ofRow() {
        line(14, INDEX, "if there is no such ROW");
        for (int what : new int[] {0, 2, -1, 3}) {
            noSuchRow((x, row) -> x.ofRow(row, what));
        }
        line(14, ARGUMENT, "if what is not 0 to 2");
        for (int what : outside(0, 2)) {
            refused(MIXED, x -> x.ofRow(0, what));
            refused(MIXED, x -> x.ofRow(2, what));
            refused(NOT_LAID_OUT, x -> x.ofRow(0, what));
            refused(ROWS_ALONE, x -> x.ofRow(0, what));
        }
        taken(MIXED, 1, x -> x.ofRow(2, 1));
        taken(MIXED, 0, x -> x.ofRow(0, 2));
    }

    private static void ofPage() {
        line(15, INDEX, "if there is no such PAGE (so if it is not laid out)");
        for (int what : new int[] {0, 4, -1, 5}) {
            noSuchPage((x, page) -> x.ofPage(page, what));
        }
        line(15, ARGUMENT, "if what is not 0 to 4");
        for (int what : outside(0, 4)) {
            refused(MIXED, x -> x.ofPage(0, what));
            refused(MIXED, x -> x.ofPage(1, what));
        }
        taken(MIXED, 2, x -> x.many(2));
        taken(MIXED, 0, x -> x.ofPage(0, 0));
        taken(MIXED, 2, x -> x.ofPage(1, 0));
        // 5 titles, 2 carried, 5 cells, the note of the row ahead.
        taken(MIXED, 5 + 2 + 5 + 1, x -> x.ofPage(1, 4));
    }

    private static void noSuchPage(RowCall call) {
        for (Supplier<TableWright> table : List.of(EMPTY, ROWS_ALONE, COLUMNS_ALONE, NOT_LAID_OUT)) {
            for (int page : new int[] {LOW, -1, 0, 1, TOP}) {
                refused(table, x -> call.of(x, page));
            }
        }
        for (int page : outside(0, 1)) {
            refused(MIXED, x -> call.of(x, page));
        }
        // There were two pages, and one is left.
        for (int page : outside(0, 0)) {
            refused(() -> onOnePage(), x -> call.of(x, page));
        }
    }

    private static TableWright onOnePage() {
        TableWright x = MIXED.get();
        x.paper(40, 60);
        due("pages that are left", 1, x.many(2));
        return x;
    }

    private static void carried() {
        line(16, INDEX, "if there is no such PAGE, or COLUMN");
        for (int column : new int[] {0, 1, -1, 5}) {
            noSuchPage((x, page) -> x.carried(page, column));
        }
        for (int column : outside(0, 4)) {
            refused(MIXED, x -> x.carried(0, column));
            refused(MIXED, x -> x.carried(1, column));
        }
        taken(MIXED, -13, x -> x.carried(0, 0));
        taken(MIXED, 774, x -> x.carried(1, 3));
        taken(MIXED, -1, x -> x.carried(1, 4));
    }

    private static void many() {
        line(17, ARGUMENT, "if what is not 0 to 7");
        for (int what : outside(0, 7)) {
            refused(EMPTY, x -> x.many(what));
            refused(MIXED, x -> x.many(what));
            refused(NOT_LAID_OUT, x -> x.many(what));
        }
        taken(MIXED, 5, x -> x.many(0));
        taken(MIXED, 1, x -> x.many(7));
    }

    // ---- promise 20

    private static void changedBy() {
        numberCalls(20, (x, row, column, value) -> x.changedBy(row, column, value));
        for (int value : new int[] {-9999, 9999}) {
            taken(NOT_LAID_OUT, 0, x -> x.changedBy(0, 0, value));
            taken(NOT_LAID_OUT, 0, x -> x.changedBy(2, 0, value));
            taken(() -> numbers(1, 30), 1, x -> x.changedBy(29, 0, value));
        }
    }
}
