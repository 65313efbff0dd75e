import java.util.ArrayDeque;
import java.util.ArrayList;
import java.util.Deque;
import java.util.List;

/**
 * The document once more, in the plainest words: nothing is kept but what was written,
 * and each answer is worked out anew. ModelTests holds TableWright against it.
 */
final class Model {
    static final class Line {
        final int[] value = new int[6];
        final int[] length = new int[6];
        final int[] word = new int[6];
        final boolean[] span = new boolean[6];
        int note;
        boolean kept;
    }

    static final class Page {
        final List<Integer> rows = new ArrayList<>();
        final List<Integer> notes = new ArrayList<>();
        int left;
        int lastRowSoFar;
    }

    static final class Laid {
        int[] widths;
        List<Page> pages;
        boolean turned;
    }

    final List<int[]> columns = new ArrayList<>();
    final List<Line> lines = new ArrayList<>();
    int wide = 40;
    int high = 30;

    // ---- terms 1

    boolean isText(int column) {
        return columns.get(column)[0] == 1;
    }

    boolean hidden(Line line, int column) {
        return column > 0 && isText(column) && isText(column - 1) && spans(line, column - 1);
    }

    boolean spans(Line line, int column) {
        return line.span[column] && !hidden(line, column)
                && column + 1 < columns.size() && isText(column) && isText(column + 1);
    }

    int value(Line line, int column) {
        int[] c = columns.get(column);
        if (c[0] == 0) {
            return line.value[column];
        }
        long a = value(line, c[2]);
        long b = value(line, c[3]);
        long v = c[0] == 2 ? a + b : c[0] == 3 ? a - b : a * b;
        return v > 99999 ? 99999 : v < -99999 ? -99999 : (int) v;
    }

    int sum(int row, int column) {
        if (isText(column)) {
            return -1;
        }
        int sum = 0;
        for (int r = 0; r <= row; r++) {
            sum += value(lines.get(r), column);
        }
        return sum;
    }

    // ---- terms 2

    int least(int column) {
        int least = columns.get(column)[1];
        for (int r = 0; r < lines.size(); r++) {
            Line line = lines.get(r);
            if (!isText(column)) {
                least = Math.max(least, Integer.toString(value(line, column)).length());
                least = Math.max(least, Integer.toString(sum(r, column)).length());
            } else if (!hidden(line, column) && !spans(line, column)) {
                least = Math.max(least, line.word[column]);
            }
        }
        return least;
    }

    int best(int column) {
        int best = 0;
        if (isText(column)) {
            for (Line line : lines) {
                if (!hidden(line, column) && !spans(line, column)) {
                    best = Math.max(best, line.length[column]);
                }
            }
        }
        return Math.max(Math.min(best, 30), least(column));
    }

    int[] widths(int width) {
        int n = columns.size();
        if (n == 0 || lines.isEmpty()) {
            return null;
        }
        int[] widths = new int[n];
        int[] least = new int[n];
        for (int c = 0; c < n; c++) {
            widths[c] = best(c);
            least[c] = least(c);
        }
        while (together(widths) > width) {
            int chosen = -1;
            for (int c = n - 1; c >= 0; c--) {
                if (widths[c] > least[c]
                        && (chosen < 0 || widths[c] - least[c] >= widths[chosen] - least[chosen])) {
                    chosen = c;
                }
            }
            if (chosen < 0) {
                return null;
            }
            widths[chosen]--;
        }
        return widths;
    }

    static int together(int[] widths) {
        int all = widths.length - 1;
        for (int w : widths) {
            all += w;
        }
        return all;
    }

    int height(Line line, int column, int[] widths) {
        if (hidden(line, column)) {
            return 0;
        }
        if (!isText(column)) {
            return 1;
        }
        int w = spans(line, column) ? widths[column] + widths[column + 1] + 1 : widths[column];
        int height = 1;
        while (height * w < line.length[column]) {
            height++;
        }
        return height;
    }

    int height(Line line, int[] widths) {
        int height = 0;
        for (int c = 0; c < columns.size(); c++) {
            height = Math.max(height, height(line, c, widths));
        }
        return height;
    }

    // ---- terms 3

    /** Of each row how many rows its group has, if it is the first one of it; otherwise 0. */
    int[] groups() {
        int[] sizes = new int[lines.size()];
        int first = 0;
        for (int r = 0; r < sizes.length; r++) {
            sizes[first]++;
            if (!lines.get(r).kept) {
                first = r + 1;
            }
        }
        return sizes;
    }

    Laid fit(int width, int lineCount) {
        int[] widths = widths(width);
        if (widths == null) {
            return null;
        }
        int room = lineCount - 3;
        int n = lines.size();
        int[] heights = new int[n];
        for (int r = 0; r < n; r++) {
            heights[r] = height(lines.get(r), widths);
            if (heights[r] > room) {
                return null;
            }
        }
        Laid laid = new Laid();
        laid.widths = widths;
        laid.pages = fill(room, heights);
        return laid;
    }

    List<Page> fill(int room, int[] heights) {
        int[] groups = groups();
        List<Page> pages = new ArrayList<>();
        Deque<Integer> waiting = new ArrayDeque<>();
        int next = 0;
        while (next < heights.length || !waiting.isEmpty()) {
            Page page = new Page();
            pages.add(page);
            page.left = room;
            while (!waiting.isEmpty() && lines.get(waiting.peekFirst()).note <= page.left) {
                int noted = waiting.removeFirst();
                page.notes.add(noted);
                page.left -= lines.get(noted).note;
            }
            for (; next < heights.length && heights[next] <= page.left; next++) {
                int group = 0;
                for (int r = next; r < next + groups[next]; r++) {
                    group += heights[r];
                }
                if (group > page.left && !page.rows.isEmpty() && group <= room) {
                    break;
                }
                page.rows.add(next);
                page.left -= heights[next];
                int note = lines.get(next).note;
                if (note > 0 && waiting.isEmpty() && note <= page.left) {
                    page.notes.add(next);
                    page.left -= note;
                } else if (note > 0) {
                    waiting.addLast(next);
                }
            }
            page.lastRowSoFar = next - 1;
        }
        return pages;
    }

    // ---- terms 4

    Laid laid() {
        Laid upright = fit(wide, high);
        Laid turned = fit(high, wide);
        if (turned != null) {
            turned.turned = true;
        }
        if (upright != null && (turned == null || upright.pages.size() <= turned.pages.size())) {
            return upright;
        }
        return turned;
    }

    static int pagesOf(Laid laid) {
        return laid == null ? -1 : laid.pages.size();
    }

    int aloud(Laid laid, int number) {
        Page page = laid.pages.get(number);
        int read = columns.size() + page.notes.size();
        for (int c = 0; c < columns.size(); c++) {
            if (number > 0 && !isText(c)) {
                read++;
            }
            for (int r : page.rows) {
                if (!hidden(lines.get(r), c)) {
                    read++;
                }
            }
        }
        return read;
    }

    // ---- what the calls refuse

    private static void argument(boolean holds) {
        if (!holds) {
            throw new IllegalArgumentException();
        }
    }

    private static void index(boolean holds) {
        if (!holds) {
            throw new IndexOutOfBoundsException();
        }
    }

    private static void state(boolean holds) {
        if (!holds) {
            throw new IllegalStateException();
        }
    }

    private void hasRow(int row) {
        index(0 <= row && row < lines.size());
    }

    private void hasColumn(int column) {
        index(0 <= column && column < columns.size());
    }

    // ---- the calls

    int column(boolean isText, int title) {
        argument(1 <= title && title <= 12);
        state(columns.size() < 6);
        columns.add(new int[] {isText ? 1 : 0, title, 0, 0});
        return columns.size() - 1;
    }

    int formula(int kind, int first, int second, int title) {
        hasColumn(first);
        hasColumn(second);
        argument(kind == 2 || kind == 3 || kind == 4);
        argument(!isText(first) && !isText(second));
        argument(1 <= title && title <= 12);
        state(columns.size() < 6);
        columns.add(new int[] {kind, title, first, second});
        return columns.size() - 1;
    }

    int row() {
        state(lines.size() < 30);
        lines.add(new Line());
        return lines.size() - 1;
    }

    int cut(int row) {
        hasRow(row);
        lines.remove(row);
        return lines.size();
    }

    int number(int row, int column, int value) {
        hasRow(row);
        hasColumn(column);
        argument(columns.get(column)[0] == 0 && -9999 <= value && value <= 9999);
        int before = lines.get(row).value[column];
        lines.get(row).value[column] = value;
        return before;
    }

    int text(int row, int column, int length, int word) {
        hasRow(row);
        hasColumn(column);
        argument(isText(column) && 0 <= length && length <= 200);
        argument(0 <= word && word <= 12 && word <= length);
        int before = lines.get(row).length[column];
        lines.get(row).length[column] = length;
        lines.get(row).word[column] = word;
        return before;
    }

    boolean span(int row, int column, boolean isSpan) {
        hasRow(row);
        hasColumn(column);
        argument(isText(column) && column != columns.size() - 1);
        lines.get(row).span[column] = isSpan;
        return hidden(lines.get(row), column + 1);
    }

    int note(int row, int count) {
        hasRow(row);
        argument(0 <= count && count <= 5);
        int before = lines.get(row).note;
        lines.get(row).note = count;
        return before;
    }

    boolean keep(int row, boolean isKept) {
        hasRow(row);
        boolean before = lines.get(row).kept;
        lines.get(row).kept = isKept;
        return before;
    }

    int paper(int newWide, int newHigh) {
        argument(10 <= newWide && newWide <= 60 && 10 <= newHigh && newHigh <= 60);
        wide = newWide;
        high = newHigh;
        return pagesOf(laid());
    }

    int cell(int row, int column, int what) {
        hasRow(row);
        hasColumn(column);
        argument(0 <= what && what <= 3);
        Line line = lines.get(row);
        if (what == 0) {
            return isText(column) ? line.length[column] : value(line, column);
        }
        if (what == 1) {
            Laid laid = laid();
            return laid == null ? -1 : height(line, column, laid.widths);
        }
        return what == 2 ? (hidden(line, column) ? 1 : 0) : sum(row, column);
    }

    int ofColumn(int column, int what) {
        hasColumn(column);
        argument(0 <= what && what <= 4);
        if (what == 3) {
            Laid laid = laid();
            return laid == null ? -1 : laid.widths[column];
        }
        if (what == 4) {
            return sum(lines.size() - 1, column);
        }
        return what == 0 ? columns.get(column)[0] : what == 1 ? least(column) : best(column);
    }

    int ofRow(int row, int what) {
        hasRow(row);
        argument(0 <= what && what <= 2);
        Laid laid = laid();
        if (laid == null) {
            return -1;
        }
        if (what == 0) {
            return height(lines.get(row), laid.widths);
        }
        for (int p = 0; p < laid.pages.size(); p++) {
            Page page = laid.pages.get(p);
            if ((what == 1 ? page.rows : page.notes).contains(row)) {
                return p;
            }
        }
        return -1;
    }

    int ofPage(int page, int what) {
        Laid laid = laid();
        index(0 <= page && page < pagesOf(laid));
        argument(0 <= what && what <= 4);
        Page p = laid.pages.get(page);
        if (what == 0) {
            return p.rows.isEmpty() ? -1 : p.rows.get(0);
        }
        return what == 1 ? p.rows.size() : what == 2 ? p.notes.size() : what == 3 ? p.left : aloud(laid, page);
    }

    int carried(int page, int column) {
        Laid laid = laid();
        index(0 <= page && page < pagesOf(laid));
        hasColumn(column);
        return sum(laid.pages.get(page).lastRowSoFar, column);
    }

    int many(int what) {
        argument(0 <= what && what <= 7);
        if (what == 0 || what == 1) {
            return what == 0 ? columns.size() : lines.size();
        }
        if (what == 6) {
            return lines.stream().mapToInt(line -> line.note).sum();
        }
        Laid laid = laid();
        if (laid == null) {
            return -1;
        }
        if (what == 2) {
            return laid.pages.size();
        }
        if (what == 3) {
            return laid.turned ? 1 : 0;
        }
        if (what == 4) {
            return together(laid.widths);
        }
        if (what == 5) {
            return lines.stream().mapToInt(line -> height(line, laid.widths)).sum();
        }
        int elsewhere = 0;
        for (Page page : laid.pages) {
            for (int noted : page.notes) {
                elsewhere += page.rows.contains(noted) ? 0 : 1;
            }
        }
        return elsewhere;
    }

    double meanLeft() {
        Laid laid = laid();
        if (laid == null) {
            return 0;
        }
        return (double) laid.pages.stream().mapToInt(page -> page.left).sum() / laid.pages.size();
    }

    int pagesWith(int newWide, int newHigh, boolean isTurned) {
        argument(10 <= newWide && newWide <= 60 && 10 <= newHigh && newHigh <= 60);
        return pagesOf(isTurned ? fit(newHigh, newWide) : fit(newWide, newHigh));
    }

    private List<String> rowsAndCarried() {
        List<String> all = new ArrayList<>();
        Laid laid = laid();
        for (int p = 0; p < pagesOf(laid); p++) {
            StringBuilder page = new StringBuilder(laid.pages.get(p).rows.toString());
            for (int c = 0; c < columns.size(); c++) {
                page.append(' ').append(carried(p, c));
            }
            all.add(page.toString());
        }
        return all;
    }

    int changedBy(int row, int column, int value) {
        List<String> now = rowsAndCarried();
        int before = number(row, column, value);
        List<String> then = rowsAndCarried();
        number(row, column, before);
        int changed = 0;
        for (int p = 0; p < Math.max(now.size(), then.size()); p++) {
            String page = p < now.size() ? now.get(p) : "none";
            changed += page.equals(p < then.size() ? then.get(p) : "none") ? 0 : 1;
        }
        return changed;
    }

    int pagesWithout(int row) {
        hasRow(row);
        Line line = lines.remove(row);
        int pages = pagesOf(laid());
        lines.add(row, line);
        return pages;
    }

    long digest() {
        List<Integer> all = new ArrayList<>();
        for (int what = 0; what < 8; what++) {
            all.add(many(what));
        }
        for (int c = 0; c < columns.size(); c++) {
            for (int what = 0; what < 5; what++) {
                all.add(ofColumn(c, what));
            }
        }
        for (int r = 0; r < lines.size(); r++) {
            for (int what = 0; what < 3; what++) {
                all.add(ofRow(r, what));
            }
            for (int c = 0; c < columns.size(); c++) {
                for (int what = 0; what < 4; what++) {
                    all.add(cell(r, c, what));
                }
            }
        }
        for (int p = 0; p < pagesOf(laid()); p++) {
            for (int what = 0; what < 5; what++) {
                all.add(ofPage(p, what));
            }
            for (int c = 0; c < columns.size(); c++) {
                all.add(carried(p, c));
            }
        }
        all.add(pagesWith(30, 20, false));
        all.add(pagesWith(30, 20, true));
        long d = 58119;
        for (int v : all) {
            d = d * 31 + v;
        }
        return d;
    }
}
