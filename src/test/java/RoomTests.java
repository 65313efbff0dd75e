import com.sun.management.ThreadMXBean;
import java.lang.management.ManagementFactory;

/** All calls of one run share one room: what a call needs is made with the object, not by the call. */
public final class RoomTests {
    private static final int CALLS_OF_A_ROUND = 9;
    private static final int ROUNDS = 42;
    private static final long BYTES_IN_ALL = 64 * 1024;

    public static void main(String[] args) {
        ThreadMXBean threads = (ThreadMXBean) ManagementFactory.getThreadMXBean();
        if (!threads.isThreadAllocatedMemorySupported()) {
            System.out.println("RoomTests: 0 passed, 0 failed, 1 skipped");
            return;
        }
        long thread = Thread.currentThread().getId();
        long answers = ask(fullTable(), 2);
        TableWright table = fullTable();
        long before = threads.getThreadAllocatedBytes(thread);
        answers += ask(table, ROUNDS);
        long made = threads.getThreadAllocatedBytes(thread) - before;
        boolean isFine = made <= BYTES_IN_ALL && answers != 0;
        System.out.println(ROUNDS * CALLS_OF_A_ROUND + " calls make " + made + " bytes");
        System.out.println("RoomTests: " + (isFine ? "1 passed, 0 failed" : "0 passed, 1 failed"));
        if (!isFine) {
            System.exit(1);
        }
    }

    private static TableWright fullTable() {
        TableWright table = new TableWright();
        table.column(true, 3);
        table.column(true, 3);
        table.column(false, 1);
        table.formula(4, 2, 2, 1);
        table.formula(2, 3, 3, 1);
        table.formula(4, 4, 4, 1);
        for (int row = 0; row < 30; row++) {
            table.row();
            table.text(row, 0, 6 * row, Math.min(3, row));
            table.number(row, 2, 9 * row);
            table.note(row, row % 6);
        }
        table.paper(50, 30);
        return table;
    }

    private static long ask(TableWright table, int rounds) {
        long answers = 0;
        for (int round = 0; round < rounds; round++) {
            answers += table.digest();
            answers += table.changedBy(3, 2, round);
            answers += table.pagesWithout(round % 30);
            answers += table.pagesWith(50, 20, false);
            answers += table.paper(50 + round % 3, 30);
            answers += table.number(4, 2, round);
            answers += table.span(5, 0, round % 2 == 0) ? 1 : 0;
            answers += table.cut(29) + table.row();
        }
        return answers;
    }
}
