import java.io.IOException;
import java.nio.file.Files;
import java.nio.file.Path;
import java.util.ArrayList;
import java.util.List;

/** What the tests share: answers held against those that are due, and small tables. */
abstract class Checks {
    static final Class<? extends RuntimeException> INDEX = IndexOutOfBoundsException.class;
    static final Class<? extends RuntimeException> ARGUMENT = IllegalArgumentException.class;
    static final Class<? extends RuntimeException> STATE = IllegalStateException.class;
    static final int LOW = Integer.MIN_VALUE;
    static final int TOP = Integer.MAX_VALUE;

    static String part = "";
    private static int passed = 0;
    private static int failed = 0;

    // ---- how it is told

    static void due(String what, Object want, Object got) {
        if (want.equals(got)) {
            passed++;
        } else {
            failed++;
            System.out.println(part + ": " + what + " is " + got + ", due is " + want);
        }
    }

    static Object thrownBy(Runnable call) {
        try {
            call.run();
            return "nothing";
        } catch (RuntimeException e) {
            return e.getClass();
        }
    }

    /** The document as one line, so that a sentence of it can be found wherever its lines end. */
    static String documentAt(String path) throws IOException {
        return Files.readString(Path.of(path)).replaceAll("\\s+", " ");
    }

    static void finish(String tests) {
        System.out.println(tests + ": " + passed + " passed, " + failed + " failed");
        if (failed > 0) {
            System.exit(1);
        }
    }

    // ---- small tables

    static TableWright numbers(int columns, int rows) {
        TableWright x = new TableWright();
        for (int i = 0; i < columns; i++) {
            x.column(false, 1);
        }
        return withRows(x, rows);
    }

    static TableWright texts(int columns, int rows) {
        TableWright x = new TableWright();
        for (int i = 0; i < columns; i++) {
            x.column(true, 1);
        }
        return withRows(x, rows);
    }

    static TableWright withRows(TableWright x, int rows) {
        for (int i = 0; i < rows; i++) {
            x.row();
        }
        return x;
    }

    /** One column of texts, which is 10 wide if it is narrowed: each row has the height that is asked for. */
    static TableWright high(int... heights) {
        TableWright x = new TableWright();
        x.column(true, 10);
        for (int height : heights) {
            int row = x.row();
            x.text(row, 0, height * 10, 1);
        }
        return x;
    }

    // ---- all that can be seen of a table

    /**
     * All that a table tells, until nothing is left in it: each call that writes answers what was
     * there, and what only shows then, the digest tells. Two tables that tell the same hold the same.
     * It takes some 450 calls of a full table.
     */
    static List<Object> trace(TableWright x) {
        List<Object> told = new ArrayList<>();
        told.add(x.digest());
        int columns = x.many(0);
        int rows = x.many(1);
        int[] kinds = new int[columns];
        for (int column = 0; column < columns; column++) {
            kinds[column] = x.ofColumn(column, 0);
        }
        for (int row = 0; row < rows; row++) {
            told.add(x.note(row, 0));
            told.add(x.keep(row, false));
            for (int column = 0; column < columns; column++) {
                if (kinds[column] == 1) {
                    clearText(x, row, column, columns, told);
                } else if (kinds[column] == 0) {
                    told.add(x.number(row, column, 0));
                }
            }
            told.add(x.digest());
        }
        showPaper(x, told);
        return told;
    }

    private static void clearText(TableWright x, int row, int column, int columns, List<Object> told) {
        if (column + 1 < columns) {
            told.add(x.span(row, column, false));
            told.add(x.digest());
        }
        told.add(x.text(row, column, 0, 0));
    }

    /** How wide the paper is shows by texts that are narrowed to it, and how high by the lines left. */
    private static void showPaper(TableWright x, List<Object> told) {
        for (int columns = x.many(0); columns < 6; columns++) {
            told.add(x.column(true, 1));
        }
        if (x.many(1) == 0) {
            told.add(x.row());
        }
        for (int column = 0; column < 6; column++) {
            if (x.ofColumn(column, 0) == 1) {
                told.add(x.text(0, column, 30, 0));
            }
        }
        told.add(x.digest());
    }
}
