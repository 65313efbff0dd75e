import java.util.ArrayList;
import java.util.List;
import java.util.function.Supplier;

/** Each promise of the document by its number: ordinary calls, edges, wrong inputs. */
public final class PromiseTests extends Checks {
    public static void main(String[] args) {
        newObject();
        paperAtFirst();
        column();
        formula();
        formulaResults();
        row();
        cut();
        number();
        text();
        span();
        note();
        keep();
        paper();
        cell();
        sums();
        ofColumnWidths();
        ofColumnNarrowed();
        ofColumn();
        heights();
        ofRow();
        groups();
        groupsThatEndNoPage();
        waitingNotes();
        notesAlone();
        mostPages();
        ofPage();
        aloud();
        carried();
        many();
        uprightOrTurned();
        doesNotFit();
        meanLeft();
        pagesWith();
        changedBy();
        changedByOtherPaper();
        changedByInFull();
        pagesWithout();
        pagesWithoutInFull();
        digest();
        digestOfAll();
        finish("PromiseTests");
    }

    /** The call throws just this, and changes nothing. */
    private static void refused(TableWright x, Class<? extends RuntimeException> want, Runnable call) {
        long before = x.digest();
        due("what is thrown", want, thrownBy(call));
        due("digest() after a throw", before, x.digest());
    }

    // ---- promise 1

    private static void newObject() {
        part = "promise 1";
        TableWright x = new TableWright();
        due("many(0)", 0, x.many(0));
        due("many(1)", 0, x.many(1));
        for (int what : new int[] {2, 3, 4, 5, 7}) {
            due("many(" + what + ")", -1, x.many(what));
        }
        due("many(6)", 0, x.many(6));
        due("meanLeft()", 0.0, x.meanLeft());
        due("pagesWith()", -1, x.pagesWith(60, 60, false));
        due("two objects", true, new TableWright().row() == new TableWright().row());
        TableWright y = texts(1, 1);
        y.text(0, 0, 100, 1);
        y.column(false, 11);
        due("40 wide at first", 40, y.many(4));
        due("narrowed to 40", 28, y.ofColumn(0, 3));
    }

    private static void paperAtFirst() {
        part = "promise 11, at first";
        TableWright x = numbers(1, 27);
        due("upright", 0, x.many(3));
        due("left of 27", 0, x.ofPage(0, 3));
        x.row();
        due("turned", 1, x.many(3));
        due("left of 37", 9, x.ofPage(0, 3));
    }

    // ---- promises 2 to 10: what is written

    private static void column() {
        part = "promise 2";
        TableWright x = new TableWright();
        refused(x, ARGUMENT, () -> x.column(true, 0));
        refused(x, ARGUMENT, () -> x.column(false, 13));
        refused(x, ARGUMENT, () -> x.column(false, LOW));
        refused(x, ARGUMENT, () -> x.column(false, TOP));
        due("column()", 0, x.column(true, 1));
        due("column()", 1, x.column(false, 12));
        due("kind", 1, x.ofColumn(0, 0));
        due("kind", 0, x.ofColumn(1, 0));
        due("least", 1, x.ofColumn(0, 1));
        due("least", 12, x.ofColumn(1, 1));
        x.row();
        due("value at first", 0, x.cell(0, 1, 0));
        due("length at first", 0, x.cell(0, 0, 0));
        for (int i = 2; i < 6; i++) {
            due("column()", i, x.column(i % 2 == 0, i));
        }
        due("many(0)", 6, x.many(0));
        refused(x, STATE, () -> x.column(true, 5));
        refused(x, ARGUMENT, () -> x.column(true, 13));
    }

    private static void formula() {
        part = "promise 3";
        TableWright x = new TableWright();
        refused(x, INDEX, () -> x.formula(2, 0, 0, 1));
        x.column(false, 1);
        x.column(true, 1);
        refused(x, INDEX, () -> x.formula(2, 2, 0, 1));
        refused(x, INDEX, () -> x.formula(2, 0, 2, 1));
        refused(x, INDEX, () -> x.formula(9, -1, 1, 0));
        refused(x, INDEX, () -> x.formula(9, 1, LOW, 0));
        refused(x, INDEX, () -> x.formula(9, TOP, 1, 0));
        refused(x, ARGUMENT, () -> x.formula(1, 0, 0, 1));
        refused(x, ARGUMENT, () -> x.formula(5, 0, 0, 1));
        refused(x, ARGUMENT, () -> x.formula(LOW, 0, 0, 1));
        refused(x, ARGUMENT, () -> x.formula(2, 1, 0, 1));
        refused(x, ARGUMENT, () -> x.formula(2, 0, 1, 1));
        refused(x, ARGUMENT, () -> x.formula(2, 0, 0, 0));
        refused(x, ARGUMENT, () -> x.formula(2, 0, 0, 13));
        due("formula()", 2, x.formula(2, 0, 0, 12));
        due("formula()", 3, x.formula(3, 0, 2, 1));
        due("formula()", 4, x.formula(4, 3, 2, 1));
        due("formula()", 5, x.formula(4, 4, 4, 1));
        due("kind", 3, x.ofColumn(3, 0));
        due("kind", 4, x.ofColumn(5, 0));
        due("least", 12, x.ofColumn(2, 1));
        refused(x, STATE, () -> x.formula(2, 0, 0, 1));
        refused(x, ARGUMENT, () -> x.formula(2, 0, 1, 1));
        refused(x, ARGUMENT, () -> x.formula(2, 0, 0, 13));
        refused(x, INDEX, () -> x.formula(2, 0, 6, 1));
    }

    private static void formulaResults() {
        part = "promise 3, results";
        TableWright x = numbers(2, 2);
        x.formula(2, 0, 1, 1);
        x.formula(3, 0, 1, 1);
        x.formula(4, 0, 1, 1);
        x.formula(4, 4, 4, 1);
        x.number(0, 0, 30);
        x.number(0, 1, -40);
        due("sum", -10, x.cell(0, 2, 0));
        due("difference", 70, x.cell(0, 3, 0));
        due("product", -1200, x.cell(0, 4, 0));
        due("product of products", 99999, x.cell(0, 5, 0));
        x.number(1, 0, -333);
        x.number(1, 1, 300);
        due("just inside", -99900, x.cell(1, 4, 0));
        x.number(1, 1, 301);
        due("at the least", -99999, x.cell(1, 4, 0));
        due("of what is cut", 99999, x.cell(1, 5, 0));
        TableWright y = numbers(1, 1);
        y.number(0, 0, 9999);
        y.formula(4, 0, 0, 1);
        y.formula(2, 1, 1, 1);
        y.formula(3, 0, 2, 1);
        due("cut first, then taken", 99999, y.cell(0, 2, 0));
        due("difference", -90000, y.cell(0, 3, 0));
    }

    private static void row() {
        part = "promise 4";
        TableWright x = numbers(1, 0);
        for (int i = 0; i < 30; i++) {
            due("row()", i, x.row());
        }
        refused(x, STATE, () -> x.row());
        due("many(1)", 30, x.many(1));
        due("cut()", 29, x.cut(3));
        due("row()", 29, x.row());
        TableWright y = numbers(1, 1);
        due("page of the first", 0, y.ofRow(0, 1));
        due("row()", 1, y.row());
        due("page of the second", 0, y.ofRow(1, 1));
        due("height of the second", 1, y.ofRow(1, 0));
        due("heights", 2, y.many(5));
    }

    private static void cut() {
        part = "promise 5";
        TableWright x = new TableWright();
        x.column(false, 1);
        x.column(true, 1);
        x.column(true, 1);
        refused(x, INDEX, () -> x.cut(0));
        withRows(x, 3);
        for (int row = 0; row < 3; row++) {
            x.number(row, 0, 10 + row);
            x.text(row, 1, 20 + row, row);
            x.note(row, 1 + row);
        }
        x.keep(2, true);
        x.span(2, 1, true);
        refused(x, INDEX, () -> x.cut(3));
        refused(x, INDEX, () -> x.cut(-1));
        refused(x, INDEX, () -> x.cut(LOW));
        refused(x, INDEX, () -> x.cut(TOP));
        due("cut(1)", 2, x.cut(1));
        due("value ahead", 10, x.cell(0, 0, 0));
        due("value behind", 12, x.cell(1, 0, 0));
        due("length behind", 22, x.cell(1, 1, 0));
        due("hidden behind", 1, x.cell(1, 2, 2));
        due("sum", 22, x.ofColumn(0, 4));
        due("lines of notes", 4, x.many(6));
        due("kept behind", true, x.keep(1, true));
        due("cut(1)", 1, x.cut(1));
        due("row()", 1, x.row());
        due("a new row's value", 0, x.cell(1, 0, 0));
        due("a new row's length", 0, x.cell(1, 1, 0));
        due("a new row's hidden", 0, x.cell(1, 2, 2));
        due("a new row's note", 0, x.note(1, 0));
        due("a new row's keep", false, x.keep(1, false));
        due("a new row's word", 1, x.ofColumn(1, 1));
    }

    private static void number() {
        part = "promise 6";
        TableWright x = numbers(1, 2);
        x.column(true, 1);
        x.formula(2, 0, 0, 1);
        due("number()", 0, x.number(1, 0, -9999));
        due("number()", -9999, x.number(1, 0, 9999));
        due("number()", 0, x.number(0, 0, 5));
        due("value", 9999, x.cell(1, 0, 0));
        due("value", 5, x.cell(0, 0, 0));
        due("formula", 10, x.cell(0, 2, 0));
        refused(x, INDEX, () -> x.number(2, 0, 1));
        refused(x, INDEX, () -> x.number(-1, 1, 10000));
        refused(x, INDEX, () -> x.number(0, 3, 10000));
        refused(x, INDEX, () -> x.number(0, LOW, 1));
        refused(x, ARGUMENT, () -> x.number(0, 1, 1));
        refused(x, ARGUMENT, () -> x.number(0, 2, 1));
        refused(x, ARGUMENT, () -> x.number(0, 0, 10000));
        refused(x, ARGUMENT, () -> x.number(0, 0, -10000));
        refused(x, ARGUMENT, () -> x.number(0, 0, LOW));
    }

    private static void text() {
        part = "promise 7";
        TableWright x = texts(2, 2);
        x.column(false, 1);
        due("text()", 0, x.text(1, 0, 200, 12));
        due("text()", 200, x.text(1, 0, 12, 12));
        due("text()", 12, x.text(1, 0, 0, 0));
        due("text()", 0, x.text(0, 1, 7, 3));
        due("length", 7, x.cell(0, 1, 0));
        due("length", 0, x.cell(0, 0, 0));
        due("least", 3, x.ofColumn(1, 1));
        refused(x, INDEX, () -> x.text(2, 0, 1, 1));
        refused(x, INDEX, () -> x.text(-1, 2, 999, 1));
        refused(x, INDEX, () -> x.text(0, 3, 999, 1));
        refused(x, INDEX, () -> x.text(0, -1, 1, 1));
        refused(x, ARGUMENT, () -> x.text(0, 2, 1, 1));
        refused(x, ARGUMENT, () -> x.text(0, 0, 201, 1));
        refused(x, ARGUMENT, () -> x.text(0, 0, -1, 0));
        refused(x, ARGUMENT, () -> x.text(0, 0, -1, -1));
        refused(x, ARGUMENT, () -> x.text(0, 0, 200, 13));
        refused(x, ARGUMENT, () -> x.text(0, 0, 200, -1));
        refused(x, ARGUMENT, () -> x.text(0, 0, 5, 6));
        refused(x, ARGUMENT, () -> x.text(0, 0, TOP, LOW));
        due("text() of equal length and word", 0, x.text(0, 0, 5, 5));
    }

    private static void span() {
        part = "promise 8";
        TableWright x = texts(3, 2);
        x.column(false, 1);
        x.column(true, 1);
        due("span()", true, x.span(0, 0, true));
        due("hidden", 1, x.cell(0, 1, 2));
        due("of a hidden cell", false, x.span(0, 1, true));
        due("not hidden", 0, x.cell(0, 2, 2));
        due("another row", 0, x.cell(1, 1, 2));
        due("span() no more", false, x.span(0, 0, false));
        due("the next one spans then", 1, x.cell(0, 2, 2));
        due("hidden again", true, x.span(0, 0, true));
        due("beside a number", false, x.span(1, 2, true));
        refused(x, INDEX, () -> x.span(2, 0, true));
        refused(x, INDEX, () -> x.span(-1, 3, true));
        refused(x, INDEX, () -> x.span(0, 5, true));
        refused(x, INDEX, () -> x.span(0, LOW, true));
        refused(x, ARGUMENT, () -> x.span(0, 3, true));
        refused(x, ARGUMENT, () -> x.span(0, 4, true));
        refused(x, ARGUMENT, () -> x.span(0, 4, false));
        x.column(true, 1);
        due("no more the last one", true, x.span(0, 4, true));
        TableWright y = texts(1, 1);
        y.column(false, 1);
        y.formula(2, 1, 1, 1);
        due("beside a number alone", false, y.span(0, 0, true));
        refused(y, ARGUMENT, () -> y.span(0, 2, true));
    }

    private static void note() {
        part = "promise 9";
        TableWright x = numbers(1, 2);
        due("note()", 0, x.note(1, 5));
        due("note()", 5, x.note(1, 2));
        due("note()", 0, x.note(0, 1));
        due("lines", 3, x.many(6));
        due("note()", 2, x.note(1, 0));
        due("no note", -1, x.ofRow(1, 2));
        due("a note", 0, x.ofRow(0, 2));
        refused(x, INDEX, () -> x.note(2, 1));
        refused(x, INDEX, () -> x.note(-1, 6));
        refused(x, ARGUMENT, () -> x.note(0, 6));
        refused(x, ARGUMENT, () -> x.note(0, -1));
        refused(x, ARGUMENT, () -> x.note(0, TOP));
    }

    private static void keep() {
        part = "promise 10";
        TableWright x = numbers(1, 2);
        due("keep()", false, x.keep(1, true));
        due("keep()", true, x.keep(1, true));
        due("keep()", true, x.keep(1, false));
        due("keep()", false, x.keep(1, false));
        due("keep() of another", false, x.keep(0, true));
        refused(x, INDEX, () -> x.keep(2, true));
        refused(x, INDEX, () -> x.keep(-1, true));
    }

    // ---- promise 11

    private static void paper() {
        part = "promise 11";
        TableWright x = numbers(1, 30);
        due("at first 40 wide, 30 high", 1, x.many(3));
        due("pages at first", 1, x.many(2));
        due("paper()", 5, x.paper(10, 10));
        due("paper()", 1, x.paper(60, 60));
        due("paper()", 3, x.paper(13, 13));
        refused(x, ARGUMENT, () -> x.paper(9, 20));
        refused(x, ARGUMENT, () -> x.paper(20, 9));
        refused(x, ARGUMENT, () -> x.paper(61, 20));
        refused(x, ARGUMENT, () -> x.paper(20, 61));
        refused(x, ARGUMENT, () -> x.paper(LOW, TOP));
        due("paper() without columns", -1, withRows(new TableWright(), 1).paper(40, 40));
        due("paper() without rows", -1, numbers(1, 0).paper(40, 40));
    }

    // ---- promise 12

    private static void cell() {
        part = "promise 12";
        TableWright x = texts(2, 2);
        x.column(false, 1);
        x.text(0, 0, 100, 2);
        x.text(0, 1, 50, 4);
        x.number(0, 2, 7);
        x.paper(40, 60);
        due("length", 100, x.cell(0, 0, 0));
        due("height", 6, x.cell(0, 0, 1));
        due("height", 3, x.cell(0, 1, 1));
        due("height of a number", 1, x.cell(0, 2, 1));
        due("height of no letters", 1, x.cell(1, 0, 1));
        x.span(0, 0, true);
        due("length of a hidden one", 50, x.cell(0, 1, 0));
        due("height of a hidden one", 0, x.cell(0, 1, 1));
        due("hidden", 1, x.cell(0, 1, 2));
        due("spanning", 0, x.cell(0, 0, 2));
        due("sum of a text", -1, x.cell(0, 0, 3));
        due("hidden, of a number", 0, x.cell(0, 2, 2));
        x.paper(10, 10);
        due("not laid out", -1, x.cell(0, 0, 1));
        due("not laid out, hidden", -1, x.cell(0, 1, 1));
        due("not laid out, a number", -1, x.cell(0, 2, 1));
        refused(x, INDEX, () -> x.cell(2, 0, 0));
        refused(x, INDEX, () -> x.cell(0, 3, 4));
        refused(x, INDEX, () -> x.cell(-1, 0, -1));
        refused(x, INDEX, () -> x.cell(0, -1, 0));
        refused(x, ARGUMENT, () -> x.cell(0, 0, 4));
        refused(x, ARGUMENT, () -> x.cell(0, 0, -1));
    }

    private static void sums() {
        part = "promise 12, sums";
        TableWright x = numbers(1, 3);
        x.formula(4, 0, 0, 1);
        x.number(0, 0, 5);
        x.number(1, 0, -9);
        x.number(2, 0, 400);
        due("sum", 5, x.cell(0, 0, 3));
        due("sum", -4, x.cell(1, 0, 3));
        due("sum", 396, x.cell(2, 0, 3));
        due("sum of a formula", 106, x.cell(1, 1, 3));
        due("of what is cut", 100105, x.cell(2, 1, 3));
        x.cut(0);
        due("without the first", -9, x.cell(0, 0, 3));
    }

    // ---- promise 13

    private static void ofColumnWidths() {
        part = "promise 13, least and best";
        TableWright x = numbers(1, 2);
        due("of 0", 1, x.ofColumn(0, 1));
        x.number(0, 0, 99);
        due("of 99", 2, x.ofColumn(0, 1));
        x.number(1, 0, 1);
        due("of the sum 100", 3, x.ofColumn(0, 1));
        x.number(0, 0, -9);
        due("of -9", 2, x.ofColumn(0, 1));
        x.number(1, 0, -1);
        due("of the sum -10", 3, x.ofColumn(0, 1));
        due("best", 3, x.ofColumn(0, 2));
        x.number(0, 0, 9999);
        x.number(1, 0, -9999);
        due("of a value, the sum of which is smaller", 5, x.ofColumn(0, 1));
        x.number(0, 0, -9);
        due("of the sum -10008", 6, x.ofColumn(0, 1));
        x.row();
        x.number(2, 0, 9999);
        due("of a sum ahead of the last", 6, x.ofColumn(0, 1));
        TableWright y = texts(3, 2);
        y.text(0, 0, 29, 2);
        due("best", 29, y.ofColumn(0, 2));
        due("least", 2, y.ofColumn(0, 1));
        y.text(1, 0, 31, 12);
        due("best at the most", 30, y.ofColumn(0, 2));
        due("least", 12, y.ofColumn(0, 1));
        y.text(1, 1, 20, 8);
        y.text(1, 2, 8, 8);
        due("best", 20, y.ofColumn(1, 2));
        y.span(1, 0, true);
        due("one that spans counts not for best", 29, y.ofColumn(0, 2));
        due("one that spans counts not for least", 2, y.ofColumn(0, 1));
        due("a hidden one counts not for best", 1, y.ofColumn(1, 2));
        due("a hidden one counts not for least", 1, y.ofColumn(1, 1));
        y.span(1, 1, true);
        due("what a hidden one does not span counts", 8, y.ofColumn(2, 1));
        TableWright z = new TableWright();
        z.column(true, 9);
        z.row();
        z.text(0, 0, 5, 3);
        due("title", 9, z.ofColumn(0, 1));
        due("best is least at the least", 9, z.ofColumn(0, 2));
        z.column(false, 3);
        z.span(0, 0, true);
        z.text(0, 0, 25, 11);
        due("beside a number it counts", 25, z.ofColumn(0, 2));
        due("beside a number it counts", 11, z.ofColumn(0, 1));
    }

    private static void ofColumnNarrowed() {
        part = "promise 13, narrowed";
        TableWright x = texts(3, 1);
        x.text(0, 0, 20, 4);
        x.text(0, 1, 30, 4);
        x.text(0, 2, 18, 2);
        x.paper(60, 60);
        // 70 in all; spare are 16, 26 and 16: the second one becomes 20, then all in turn.
        due("first", 20, x.ofColumn(0, 3));
        due("second", 20, x.ofColumn(1, 3));
        due("third", 18, x.ofColumn(2, 3));
        due("wide", 60, x.many(4));
        x.paper(58, 58);
        due("first of several is less wide", 19, x.ofColumn(0, 3));
        due("second", 19, x.ofColumn(1, 3));
        due("third", 18, x.ofColumn(2, 3));
        x.paper(57, 57);
        due("third", 17, x.ofColumn(2, 3));
        x.paper(56, 56);
        due("first again", 18, x.ofColumn(0, 3));
        x.paper(12, 60);
        due("first at least", 4, x.ofColumn(0, 3));
        due("second at least", 4, x.ofColumn(1, 3));
        due("third at least", 2, x.ofColumn(2, 3));
        due("upright it would not fit at 11", -1, x.pagesWith(11, 60, false));
        due("it just fits at 12", 1, x.pagesWith(12, 60, false));
    }

    private static void ofColumn() {
        part = "promise 13";
        TableWright x = new TableWright();
        refused(x, INDEX, () -> x.ofColumn(0, 0));
        x.column(false, 3);
        x.column(true, 5);
        x.formula(3, 0, 0, 4);
        due("width without rows", -1, x.ofColumn(0, 3));
        due("sum without rows", 0, x.ofColumn(0, 4));
        due("sum without rows, of a text", -1, x.ofColumn(1, 4));
        due("sum without rows, of a formula", 0, x.ofColumn(2, 4));
        withRows(x, 2);
        x.number(0, 0, 70);
        x.number(1, 0, -20);
        due("kind", 0, x.ofColumn(0, 0));
        due("kind", 1, x.ofColumn(1, 0));
        due("kind", 3, x.ofColumn(2, 0));
        due("width", 3, x.ofColumn(0, 3));
        due("sum", 50, x.ofColumn(0, 4));
        due("sum of a text", -1, x.ofColumn(1, 4));
        refused(x, INDEX, () -> x.ofColumn(3, 0));
        refused(x, INDEX, () -> x.ofColumn(-1, 5));
        refused(x, ARGUMENT, () -> x.ofColumn(0, 5));
        refused(x, ARGUMENT, () -> x.ofColumn(0, -1));
    }

    // ---- promise 14

    private static void heights() {
        part = "promise 14, heights";
        TableWright x = texts(2, 1);
        x.text(0, 0, 100, 1);
        x.text(0, 1, 200, 1);
        x.paper(60, 13);
        due("the greatest of its cells", 7, x.ofRow(0, 0));
        due("height of the other one", 4, x.cell(0, 0, 1));
        TableWright y = new TableWright();
        y.column(true, 10);
        y.column(true, 9);
        y.row();
        y.paper(20, 20);
        y.text(0, 0, 20, 1);
        due("just two lines", 2, y.ofRow(0, 0));
        y.text(0, 0, 21, 1);
        due("one letter more", 3, y.ofRow(0, 0));
        y.span(0, 0, true);
        due("over both and 1 between", 2, y.ofRow(0, 0));
        y.text(0, 0, 20, 1);
        due("just one line", 1, y.ofRow(0, 0));
        y.text(0, 1, 200, 1);
        due("a hidden one counts not", 1, y.ofRow(0, 0));
        y.span(0, 0, false);
        due("the greatest one counts", -1, y.ofRow(0, 0));
        y.paper(50, 50);
        due("the greatest one counts", 7, y.ofRow(0, 0));
    }

    private static void ofRow() {
        part = "promise 14";
        TableWright x = high(3, 4, 1);
        x.paper(10, 10);
        due("height", 4, x.ofRow(1, 0));
        due("page", 0, x.ofRow(1, 1));
        due("page", 1, x.ofRow(2, 1));
        due("no note", -1, x.ofRow(2, 2));
        x.note(2, 5);
        due("note", 1, x.ofRow(2, 2));
        x.note(1, 1);
        due("note on the next page", 1, x.ofRow(1, 2));
        due("the other one waits behind it", 1, x.ofRow(2, 2));
        due("left", 0, x.ofPage(1, 3));
        x.text(0, 0, 80, 1);
        due("height, not laid out", -1, x.ofRow(1, 0));
        due("page, not laid out", -1, x.ofRow(1, 1));
        due("note, not laid out", -1, x.ofRow(1, 2));
        refused(x, INDEX, () -> x.ofRow(3, 0));
        refused(x, INDEX, () -> x.ofRow(-1, 3));
        refused(x, ARGUMENT, () -> x.ofRow(0, 3));
        refused(x, ARGUMENT, () -> x.ofRow(0, -1));
    }

    private static void groups() {
        part = "promise 14, groups";
        TableWright x = high(3, 2, 2, 1, 1);
        x.paper(10, 10);
        due("all that have room", 0, x.ofRow(2, 1));
        x.keep(2, true);
        due("the group goes to the next page", 1, x.ofRow(2, 1));
        due("the group goes to the next page", 1, x.ofRow(3, 1));
        x.keep(1, true);
        due("a longer group", 1, x.ofRow(1, 1));
        due("what is ahead of it stays", 0, x.ofRow(0, 1));
        x.keep(0, true);
        due("a group too high is filled as it comes", 0, x.ofRow(2, 1));
        due("its last row", 1, x.ofRow(3, 1));
        x.keep(4, true);
        due("the last row can be kept", 1, x.ofRow(4, 1));
        x.row();
        due("it is no more the last one", 2, x.many(2));
        TableWright y = high(4, 1, 2, 1);
        y.paper(10, 10);
        y.keep(1, true);
        due("a group that just has room", 0, y.ofRow(2, 1));
        y.keep(2, true);
        due("up to the first that is not kept, and with it", 1, y.ofRow(1, 1));
        TableWright z = high(4, 3, 4);
        z.paper(10, 10);
        z.keep(1, true);
        due("with the last row", 1, z.ofRow(1, 1));
        z.cut(2);
        due("the last row alone", 0, z.ofRow(1, 1));
    }

    private static void groupsThatEndNoPage() {
        part = "promise 14, groups that end no page";
        TableWright x = high(7, 2, 3, 2);
        x.paper(10, 10);
        x.note(0, 3);
        x.keep(1, true);
        x.keep(2, true);
        due("with notes alone ahead it is filled", 1, x.ofRow(1, 1));
        due("with notes alone ahead it is filled", 2, x.ofRow(2, 1));
        due("inside a group no group begins", 2, x.ofRow(3, 1));
        TableWright y = high(1, 4, 4);
        y.paper(10, 10);
        y.keep(1, true);
        due("too high for an empty page", 0, y.ofRow(1, 1));
        y.text(2, 0, 30, 1);
        due("just as high as an empty page", 1, y.ofRow(1, 1));
        y.note(1, 5);
        due("notes are put aside", 1, y.ofRow(2, 1));
        due("the note waits", 2, y.ofRow(1, 2));
    }

    // ---- promise 15

    private static void waitingNotes() {
        part = "promise 15, notes that wait";
        TableWright x = high(6, 1, 1, 1, 1, 1);
        x.paper(10, 10);
        x.note(0, 2);
        x.note(1, 1);
        due("a row behind a note that waits", 0, x.ofRow(1, 1));
        due("the first one waits", 1, x.ofRow(0, 2));
        due("so does the second one", 1, x.ofRow(1, 2));
        TableWright y = high(5, 1, 1, 1);
        y.paper(10, 10);
        y.note(0, 3);
        y.note(1, 1);
        due("none goes ahead of one that waits", 1, y.ofRow(1, 2));
        due("the row has room", 0, y.ofRow(1, 1));
        y.note(1, 5);
        due("others may go on waiting", 2, y.ofRow(1, 2));
        due("rows fill the page", 1, y.ofRow(3, 1));
        due("left behind the first note", 3, y.ofPage(1, 3));
        y.note(3, 1);
        due("it waits, too, if it has room", 2, y.ofRow(3, 2));
        due("notes on the last page", 2, y.ofPage(2, 2));
    }

    private static void notesAlone() {
        part = "promise 15, notes alone";
        TableWright x = high(7, 7);
        x.paper(10, 10);
        x.note(0, 5);
        due("pages", 3, x.many(2));
        due("no row on it", -1, x.ofPage(1, 0));
        due("no row on it", 0, x.ofPage(1, 1));
        due("a note on it", 1, x.ofPage(1, 2));
        due("the row behind it", 2, x.ofRow(1, 1));
        x.note(1, 5);
        due("behind the last row", 4, x.many(2));
        due("no row on it", -1, x.ofPage(3, 0));
        due("left", 2, x.ofPage(3, 3));
        due("read: title and note", 2, x.ofPage(3, 4));
    }

    private static void mostPages() {
        part = "promise 15, the most pages";
        TableWright x = new TableWright();
        x.column(true, 10);
        for (int row = 0; row < 30; row++) {
            x.row();
            x.text(row, 0, 70, 1);
            x.note(row, 1);
        }
        due("pages", 60, x.paper(10, 10));
        due("last note", 59, x.ofRow(29, 2));
        due("last row", 58, x.ofRow(29, 1));
        due("of the last page", 6, x.ofPage(59, 3));
        due("notes elsewhere", 30, x.many(7));
        refused(x, INDEX, () -> x.ofPage(60, 0));
        due("mean left", 3.0, x.meanLeft());
    }

    private static void ofPage() {
        part = "promise 15";
        TableWright x = high(3, 3, 2, 1);
        x.paper(10, 10);
        x.note(0, 1);
        x.note(2, 2);
        due("first row", 0, x.ofPage(0, 0));
        due("rows", 2, x.ofPage(0, 1));
        due("notes", 1, x.ofPage(0, 2));
        due("left", 0, x.ofPage(0, 3));
        due("aloud", 4, x.ofPage(0, 4));
        due("first row", 2, x.ofPage(1, 0));
        due("rows", 2, x.ofPage(1, 1));
        due("left", 2, x.ofPage(1, 3));
        refused(x, INDEX, () -> x.ofPage(2, 0));
        refused(x, INDEX, () -> x.ofPage(-1, 5));
        refused(x, INDEX, () -> x.ofPage(TOP, 0));
        refused(x, ARGUMENT, () -> x.ofPage(0, 5));
        refused(x, ARGUMENT, () -> x.ofPage(0, -1));
        x.text(0, 0, 80, 1);
        refused(x, INDEX, () -> x.ofPage(0, 0));
    }

    private static void aloud() {
        part = "promise 15, aloud";
        TableWright x = texts(2, 10);
        x.column(false, 1);
        x.formula(2, 2, 2, 1);
        x.paper(10, 10);
        due("titles and cells", 4 + 7 * 4, x.ofPage(0, 4));
        due("what was carried ahead, too", 4 + 2 + 3 * 4, x.ofPage(1, 4));
        x.span(0, 0, true);
        x.span(9, 0, true);
        due("not what is hidden", 4 + 7 * 4 - 1, x.ofPage(0, 4));
        due("not what is hidden", 4 + 2 + 3 * 4 - 1, x.ofPage(1, 4));
        x.note(9, 5);
        due("a note on a page alone", 4 + 2 + 3 * 4 - 1, x.ofPage(1, 4));
        due("a note on a page alone", 4 + 2 + 1, x.ofPage(2, 4));
        x.note(8, 1);
        due("each note", 4 + 2 + 3 * 4 - 1 + 1, x.ofPage(1, 4));
        TableWright y = numbers(1, 10);
        y.column(true, 1);
        y.paper(10, 10);
        due("carried of the first column", 2 + 1 + 3 * 2, y.ofPage(1, 4));
    }

    // ---- promise 16

    private static void carried() {
        part = "promise 16";
        TableWright x = new TableWright();
        x.column(true, 10);
        x.column(false, 1);
        x.formula(4, 1, 1, 1);
        refused(x, INDEX, () -> x.carried(0, 0));
        withRows(x, 3);
        for (int row = 0; row < 3; row++) {
            x.text(row, 0, 70, 10);
            x.number(row, 1, row == 1 ? -30 : 20);
        }
        x.note(0, 5);
        due("pages", 4, x.paper(19, 10));
        due("of a formula", 400, x.carried(1, 2));
        due("of a formula", 1300, x.carried(2, 2));
        due("of a formula", 1700, x.carried(3, 2));
        due("of numbers", -10, x.carried(2, 1));
        refused(x, INDEX, () -> x.carried(4, 0));
        refused(x, INDEX, () -> x.carried(4, 9));
        refused(x, INDEX, () -> x.carried(0, 3));
        refused(x, INDEX, () -> x.carried(-1, 0));
        refused(x, INDEX, () -> x.carried(0, -1));
        due("of a text", -1, x.carried(0, 0));
        TableWright y = new TableWright();
        y.column(true, 10);
        y.column(false, 1);
        y.row();
        y.row();
        y.text(0, 0, 70, 10);
        y.text(1, 0, 70, 10);
        y.number(0, 1, 4);
        y.number(1, 1, -7);
        y.note(0, 5);
        due("pages", 3, y.paper(13, 10));
        due("on the first", 4, y.carried(0, 1));
        due("on one without rows", 4, y.carried(1, 1));
        due("on the last", -3, y.carried(2, 1));
        y.note(1, 1);
        due("behind the last row", -3, y.carried(3, 1));
    }

    // ---- promise 17

    private static void many() {
        part = "promise 17";
        TableWright x = high(3, 4, 1);
        x.column(false, 2);
        x.paper(13, 10);
        x.note(0, 0);
        x.note(1, 2);
        x.note(2, 4);
        due("columns", 2, x.many(0));
        due("rows", 3, x.many(1));
        due("pages", 2, x.many(2));
        due("upright", 0, x.many(3));
        due("wide", 13, x.many(4));
        due("heights", 8, x.many(5));
        due("lines of notes", 6, x.many(6));
        due("notes elsewhere", 1, x.many(7));
        x.text(0, 0, 200, 12);
        due("not laid out: columns", 2, x.many(0));
        due("not laid out: rows", 3, x.many(1));
        due("not laid out: pages", -1, x.many(2));
        due("not laid out: turned", -1, x.many(3));
        due("not laid out: wide", -1, x.many(4));
        due("not laid out: heights", -1, x.many(5));
        due("not laid out: lines of notes", 6, x.many(6));
        due("not laid out: notes elsewhere", -1, x.many(7));
        refused(x, ARGUMENT, () -> x.many(8));
        refused(x, ARGUMENT, () -> x.many(-1));
        refused(x, ARGUMENT, () -> x.many(TOP));
    }

    private static void uprightOrTurned() {
        part = "promise 17, upright or turned";
        TableWright x = numbers(1, 20);
        due("fewer pages turned", 1, x.paper(23, 13));
        due("fewer pages turned", 1, x.many(3));
        due("fewer pages upright", 1, x.paper(13, 23));
        due("fewer pages upright", 0, x.many(3));
        due("as many pages", 2, x.paper(13, 14));
        due("as many pages", 0, x.many(3));
        TableWright y = new TableWright();
        y.column(false, 12);
        y.row();
        due("upright alone", 1, y.paper(12, 11));
        due("upright alone", 0, y.many(3));
        due("turned alone", 1, y.paper(11, 12));
        due("turned alone", 1, y.many(3));
        due("neither", -1, y.paper(11, 11));
        due("neither", -1, y.many(3));
    }

    private static void doesNotFit() {
        part = "promise 17, does not fit";
        TableWright x = numbers(6, 1);
        due("6 columns of 1 and 5 between", 1, x.paper(11, 10));
        due("too wide by 1", -1, x.paper(10, 10));
        TableWright y = high(7);
        due("as high as an empty page", 1, y.paper(10, 10));
        y.text(0, 0, 71, 1);
        due("higher by 1", -1, y.paper(10, 10));
        due("it fits turned", 1, y.paper(11, 10));
    }

    // ---- promise 18

    private static void meanLeft() {
        part = "promise 18";
        TableWright x = high(4, 4);
        x.paper(10, 10);
        due("mean", 3.0, x.meanLeft());
        x.note(1, 2);
        due("mean, not cut", 2.0, x.meanLeft());
        x.note(1, 1);
        due("mean, not cut", 2.5, x.meanLeft());
        x.row();
        x.text(2, 0, 70, 1);
        due("thirds", 5 / 3.0, x.meanLeft());
        x.text(2, 0, 80, 1);
        due("without pages", 0.0, x.meanLeft());
    }

    // ---- promises 19 to 21

    private static void pagesWith() {
        part = "promise 19";
        TableWright x = numbers(1, 20);
        x.number(0, 0, 9999);
        long before = x.digest();
        due("upright", 2, x.pagesWith(23, 13, false));
        due("turned", 1, x.pagesWith(23, 13, true));
        due("upright", 3, x.pagesWith(10, 10, false));
        due("the edge", 1, x.pagesWith(60, 60, true));
        due("nothing is changed", before, x.digest());
        x.column(true, 12);
        due("just after a column has come", 3, x.pagesWith(17, 10, false));
        due("too wide upright", -1, x.pagesWith(16, 17, false));
        due("wide enough turned", 2, x.pagesWith(16, 17, true));
        refused(x, ARGUMENT, () -> x.pagesWith(9, 20, false));
        refused(x, ARGUMENT, () -> x.pagesWith(20, 9, true));
        refused(x, ARGUMENT, () -> x.pagesWith(61, 20, true));
        refused(x, ARGUMENT, () -> x.pagesWith(20, 61, false));
        refused(x, ARGUMENT, () -> x.pagesWith(TOP, LOW, false));
        due("without rows", -1, numbers(1, 0).pagesWith(40, 40, false));
        due("without columns", -1, withRows(new TableWright(), 1).pagesWith(40, 40, false));
    }

    private static void changedBy() {
        part = "promise 20";
        TableWright x = numbers(1, 20);
        x.column(true, 1);
        x.formula(2, 0, 0, 1);
        x.paper(10, 10);
        long before = x.digest();
        due("nothing", 0, x.changedBy(8, 0, 0));
        due("carried of the first one, too", 3, x.changedBy(0, 0, 1));
        due("carried of the last two", 2, x.changedBy(13, 0, 1));
        due("carried of the last", 1, x.changedBy(14, 0, 1));
        due("nothing is changed", before, x.digest());
        due("value", 0, x.cell(8, 0, 0));
        TableWright y = numbers(1, 20);
        y.paper(10, 10);
        due("carried of the first column alone", 2, y.changedBy(13, 0, 1));
        y.number(13, 0, 5);
        due("what is written already", 0, y.changedBy(13, 0, 5));
        refused(x, INDEX, () -> x.changedBy(20, 0, 1));
        refused(x, INDEX, () -> x.changedBy(-1, 1, 10000));
        refused(x, INDEX, () -> x.changedBy(0, 3, 10000));
        refused(x, INDEX, () -> x.changedBy(0, -1, 1));
        refused(x, ARGUMENT, () -> x.changedBy(0, 1, 1));
        refused(x, ARGUMENT, () -> x.changedBy(0, 2, 1));
        refused(x, ARGUMENT, () -> x.changedBy(0, 0, 10000));
        refused(x, ARGUMENT, () -> x.changedBy(0, 0, -10000));
    }

    private static void changedByOtherPaper() {
        part = "promise 20, pages that come and go";
        // 8 + 1 + 1 of 10: one letter more for the number makes the text 7 wide.
        TableWright x = new TableWright();
        x.column(true, 1);
        x.column(false, 1);
        withRows(x, 2);
        x.text(0, 0, 24, 1);
        x.text(1, 0, 32, 1);
        due("pages", 1, x.paper(10, 10));
        due("rows of the first, and one that is only then", 2, x.changedBy(1, 1, 10));
        due("only carried", 1, x.changedBy(1, 1, 9));
        x.number(1, 1, 10);
        due("pages now", 2, x.many(2));
        due("one that is only now", 2, x.changedBy(1, 1, 0));
        due("other heights, but the same rows", 1, x.changedBy(1, 1, 9999));
        due("all of them, if it does not fit then", 2, x.changedBy(1, 1, -9999));
        x.number(1, 1, -9999);
        due("not laid out", -1, x.many(2));
        due("all of them, if it does not fit now", 1, x.changedBy(1, 1, 0));
        due("none, if it fits neither now nor then", 0, x.changedBy(1, 1, -9998));
        // A first page with other rows, but the same carried.
        TableWright y = new TableWright();
        y.column(true, 1);
        y.column(false, 1);
        withRows(y, 3);
        y.text(0, 0, 28, 1);
        y.text(1, 0, 21, 1);
        y.text(2, 0, 7, 1);
        y.number(2, 1, 10);
        due("pages", 2, y.paper(10, 10));
        due("rows of the first", 2, y.ofPage(0, 1));
        due("rows of the first, and all of the second", 2, y.changedBy(2, 1, 100));
        due("carried of the second alone", 1, y.changedBy(2, 1, 11));
        // Four pages once, two now, and the same four then.
        TableWright z = new TableWright();
        z.column(true, 1);
        z.column(false, 1);
        withRows(z, 4);
        for (int row = 0; row < 4; row++) {
            z.text(row, 0, row % 2 == 0 ? 21 : 24, 1);
        }
        z.number(3, 1, 100);
        due("pages once", 4, z.paper(10, 10));
        z.number(3, 1, 10);
        due("pages now", 2, z.many(2));
        due("two with other rows, two only then", 4, z.changedBy(3, 1, 100));
    }

    // ---- a table of the full size

    private static TableWright full() {
        TableWright x = new TableWright();
        x.column(true, 4);
        x.column(true, 2);
        x.column(false, 3);
        x.formula(4, 2, 2, 8);
        x.formula(3, 2, 3, 1);
        x.column(false, 1);
        for (int row = 0; row < 30; row++) {
            x.row();
            x.text(row, 0, 12 + row * 5, row % 8 + 5);
            x.text(row, 1, 150 - row * 4, row % 9);
            x.number(row, 2, row * 31 - 200);
            x.note(row, row % 4);
            x.keep(row, row % 3 != 0);
            x.span(row, 0, row % 5 == 1);
        }
        x.keep(29, true);
        x.paper(60, 20);
        return x;
    }

    private static List<String> rowsAndCarried(TableWright x) {
        List<String> all = new ArrayList<>();
        int pages = x.many(2);
        for (int page = 0; page < pages; page++) {
            StringBuilder told = new StringBuilder();
            told.append(x.ofPage(page, 0)).append(' ').append(x.ofPage(page, 1));
            for (int column = 0; column < 6; column++) {
                told.append(' ').append(x.carried(page, column));
            }
            all.add(told.toString());
        }
        return all;
    }

    private static int others(List<String> now, List<String> then) {
        int most = Math.max(now.size(), then.size());
        int others = 0;
        for (int page = 0; page < most; page++) {
            boolean isSame = page < now.size() && page < then.size() && now.get(page).equals(then.get(page));
            others += isSame ? 0 : 1;
        }
        return others;
    }

    private static void changedByInFull() {
        part = "promise 20, a full table";
        TableWright x = full();
        List<String> now = rowsAndCarried(full());
        due("laid out on several pages", true, now.size() > 2);
        for (int row = 0; row < 30; row += 4) {
            for (int value : new int[] {-9999, -1, 0, 12, 9999}) {
                int column = row % 8 == 0 ? 2 : 5;
                TableWright then = full();
                then.number(row, column, value);
                int changed = others(now, rowsAndCarried(then));
                due("changedBy(" + row + ", " + column + ", " + value + ")", changed, x.changedBy(row, column, value));
            }
        }
    }

    private static void pagesWithoutInFull() {
        part = "promise 21, a full table";
        TableWright x = full();
        for (int row = 0; row < 30; row++) {
            TableWright then = full();
            then.cut(row);
            due("pagesWithout(" + row + ")", then.many(2), x.pagesWithout(row));
        }
        due("nothing is changed", full().digest(), x.digest());
    }

    private static void pagesWithout() {
        part = "promise 21";
        TableWright x = high(4, 2, 5, 1);
        x.paper(10, 10);
        x.note(0, 2);
        x.keep(2, true);
        long before = x.digest();
        due("pages", 3, x.many(2));
        due("without the first", 2, x.pagesWithout(0));
        due("without the third", 2, x.pagesWithout(2));
        x.note(0, 0);
        due("without the third, no note", 1, x.pagesWithout(2));
        x.note(0, 2);
        due("nothing is changed", before, x.digest());
        x.text(2, 0, 80, 1);
        due("not laid out", -1, x.many(2));
        due("without the one that is too high", 2, x.pagesWithout(2));
        due("without another one", -1, x.pagesWithout(0));
        refused(x, INDEX, () -> x.pagesWithout(4));
        refused(x, INDEX, () -> x.pagesWithout(-1));
        refused(x, INDEX, () -> x.pagesWithout(TOP));
        due("without the only one", -1, high(1).pagesWithout(0));
        refused(numbers(1, 0), INDEX, () -> numbers(1, 0).pagesWithout(0));
    }

    // ---- promise 22

    private static long add(long d, long v) {
        return d * 31 + v;
    }

    private static void digest() {
        part = "promise 22";
        long d = 58119;
        for (long v : new long[] {0, 0, -1, -1, -1, -1, 0, -1, -1, -1}) {
            d = add(d, v);
        }
        due("of a new object", d, new TableWright().digest());
        TableWright x = numbers(1, 1);
        x.number(0, 0, -12);
        d = 58119;
        // many; ofColumn; ofRow; cell; ofPage; carried; pagesWith
        for (long v : new long[] {1, 1, 1, 0, 3, 1, 0, 0, 0, 3, 3, 3, -12, 1, 0, -1,
                -12, 1, 0, -12, 0, 1, 0, 26, 2, -12, 1, 1}) {
            d = add(d, v);
        }
        due("of one number", d, x.digest());
        due("once more", d, x.digest());
    }

    private static void digestOfAll() {
        part = "promise 22, all of it";
        due("digest() of a full table", digestOf(() -> full(), 6, 30), full().digest());
        due("digest() without rows", digestOf(() -> numbers(2, 0), 2, 0), numbers(2, 0).digest());
        // These have just room on 30 and 20, or just not, upright or turned.
        for (int rows : new int[] {17, 18, 27, 28}) {
            due("digest() of " + rows, digestOf(() -> numbers(1, rows), 1, rows), numbers(1, rows).digest());
        }
    }

    /** Each row and each page is asked of a table of its own, as no object takes more than 512 calls. */
    private static long digestOf(Supplier<TableWright> table, int columns, int rows) {
        TableWright x = table.get();
        long d = 58119;
        for (int what = 0; what <= 7; what++) {
            d = add(d, x.many(what));
        }
        for (int column = 0; column < columns; column++) {
            for (int what = 0; what <= 4; what++) {
                d = add(d, x.ofColumn(column, what));
            }
        }
        for (int row = 0; row < rows; row++) {
            TableWright y = table.get();
            for (int what = 0; what <= 2; what++) {
                d = add(d, y.ofRow(row, what));
            }
            for (int column = 0; column < columns; column++) {
                for (int what = 0; what <= 3; what++) {
                    d = add(d, y.cell(row, column, what));
                }
            }
        }
        for (int page = 0; page < x.many(2); page++) {
            TableWright y = table.get();
            for (int what = 0; what <= 4; what++) {
                d = add(d, y.ofPage(page, what));
            }
            for (int column = 0; column < columns; column++) {
                d = add(d, y.carried(page, column));
            }
        }
        d = add(d, x.pagesWith(30, 20, false));
        return add(d, x.pagesWith(30, 20, true));
    }
}
