import java.util.Random;

/**
 * Long runs of calls, the same on every machine, of which TableWright must answer
 * each one just as the plain Model does, wrong inputs with it.
 */
public final class ModelTests {
    private static final int CALLS = 512;
    private static final int[] ODD = {Integer.MIN_VALUE, -10000, -2, -1, 13, 30, 61, 201, 10000, Integer.MAX_VALUE};

    private final Random random;
    private final TableWright table = new TableWright();
    private final Model model = new Model();
    private final int papers;
    private final int oddities;
    private final int textShare;
    private final int longest;

    private ModelTests(int run) {
        random = new Random(77_000 + run);
        papers = run % 3;
        oddities = run % 4 == 0 ? 25 : 3;
        textShare = new int[] {50, 80, 20, 65}[run / 2 % 4];
        longest = new int[] {30, 200, 80}[run / 3 % 3];
    }

    public static void main(String[] args) {
        int runs = args.length > 0 ? Integer.parseInt(args[0]) : 150;
        int failed = 0;
        for (int run = 0; run < runs; run++) {
            String fault = new ModelTests(run).fault();
            if (fault != null) {
                failed++;
                System.out.println("run " + run + ": " + fault);
            }
        }
        System.out.println("ModelTests: " + (runs - failed) + " passed, " + failed + " failed");
        if (failed > 0) {
            System.exit(1);
        }
    }

    /** The first call that is answered otherwise than the model does, or null. */
    private String fault() {
        for (int call = 0; call < CALLS; call++) {
            int[] a = chooseCall(call);
            String got = answer(a, true);
            String due = answer(a, false);
            if (!got.equals(due)) {
                return "call " + call + ", " + java.util.Arrays.toString(a) + ": " + got + ", due is " + due;
            }
        }
        return null;
    }

    // ---- which call comes: {which, its arguments}

    private int[] chooseCall(int call) {
        if (call % 64 == 63) {
            return new int[] {20};
        }
        int which = call < 45 ? chooseBuilding() : random.nextInt(100) < 55 ? chooseWriting() : chooseAsking();
        int[] a = {which, 0, 0, 0, 0};
        for (int i = 1; i < 5; i++) {
            a[i] = argument(which, i);
            if (random.nextInt(100) < oddities && random.nextInt(4) == 0) {
                a[i] = ODD[random.nextInt(ODD.length)];
            }
        }
        return a;
    }

    private int chooseBuilding() {
        int share = random.nextInt(10);
        return share < 2 ? 0 : share < 3 ? 1 : 2;
    }

    private int chooseWriting() {
        int share = random.nextInt(100);
        if (share < 12) {
            return random.nextInt(10) == 0 ? 1 : random.nextInt(5) == 0 ? 0 : 2;
        }
        return share < 15 ? 3 : share < 35 ? 4 : share < 60 ? 5 : share < 70 ? 6 : share < 82 ? 7 : share < 92 ? 8 : 9;
    }

    private int chooseAsking() {
        return 10 + random.nextInt(10);
    }

    private int argument(int which, int i) {
        switch (which) {
            case 0:
                return i == 1 ? (random.nextInt(100) < textShare ? 1 : 0) : random.nextInt(random.nextBoolean() ? 4 : 13) + 1;
            case 1:
                return i == 1 ? 2 + random.nextInt(3) : i == 4 ? random.nextInt(13) : anyColumn();
            case 4:
            case 17:
                return i == 1 ? anyRow() : i == 2 ? columnOf(0) : anyValue();
            case 5:
                return i == 1 ? anyRow() : i == 2 ? columnOf(1) : i == 3 ? random.nextInt(longest + 1) : random.nextInt(13);
            case 6:
                return i == 1 ? anyRow() : i == 2 ? columnOf(1) : random.nextInt(2);
            case 7:
                return i == 1 ? anyRow() : random.nextInt(6);
            case 9:
            case 16:
                return anyPaper();
            case 10:
                return i == 1 ? anyRow() : i == 2 ? anyColumn() : random.nextInt(4);
            case 11:
                return i == 1 ? anyColumn() : random.nextInt(5);
            case 13:
                return i == 1 ? anyPage() : random.nextInt(5);
            case 14:
                return i == 1 ? anyPage() : anyColumn();
            case 15:
                return random.nextInt(8);
            default:
                return i == 1 ? anyRow() : i == 2 && which == 12 ? random.nextInt(3) : i == 2 ? anyColumn() : random.nextInt(2);
        }
    }

    private int anyColumn() {
        int many = model.columns.size();
        return random.nextInt(many == 0 || random.nextInt(40) == 0 ? many + 1 : many);
    }

    /** Mostly one of this kind, if there is one. */
    private int columnOf(int kind) {
        int column = anyColumn();
        for (int tries = 0; tries < 8; tries++) {
            if (column < model.columns.size() && model.columns.get(column)[0] != kind) {
                column = anyColumn();
            }
        }
        return column;
    }

    private int anyRow() {
        int many = model.lines.size();
        return random.nextInt(many == 0 || random.nextInt(40) == 0 ? many + 1 : many);
    }

    private int anyPage() {
        int many = Math.max(0, Model.pagesOf(model.laid()));
        return random.nextInt(many == 0 || random.nextInt(20) == 0 ? many + 1 : many);
    }

    private int anyValue() {
        int size = new int[] {1, 10, 100, 1000, 9999}[random.nextInt(5)];
        return random.nextInt(2 * size + 1) - size;
    }

    private int anyPaper() {
        return papers == 0 ? 10 + random.nextInt(51) : papers == 1 ? 10 + random.nextInt(12) : 25 + random.nextInt(36);
    }

    // ---- the calls

    private String answer(int[] a, boolean isOfTable) {
        try {
            return isOfTable ? ofTable(a) : ofModel(a);
        } catch (RuntimeException e) {
            return "throws." + e.getClass().getSimpleName();
        }
    }

    private String ofTable(int[] a) {
        switch (a[0]) {
            case 0: return "" + table.column(a[1] == 1, a[2]);
            case 1: return "" + table.formula(a[1], a[2], a[3], a[4]);
            case 2: return "" + table.row();
            case 3: return "" + table.cut(a[1]);
            case 4: return "" + table.number(a[1], a[2], a[3]);
            case 5: return "" + table.text(a[1], a[2], a[3], a[4]);
            case 6: return "" + table.span(a[1], a[2], a[3] == 1);
            case 7: return "" + table.note(a[1], a[2]);
            case 8: return "" + table.keep(a[1], a[3] == 1);
            case 9: return "" + table.paper(a[1], a[2]);
            case 10: return "" + table.cell(a[1], a[2], a[3]);
            case 11: return "" + table.ofColumn(a[1], a[2]);
            case 12: return "" + table.ofRow(a[1], a[2]);
            case 13: return "" + table.ofPage(a[1], a[2]);
            case 14: return "" + table.carried(a[1], a[2]);
            case 15: return "" + table.many(a[1]);
            case 16: return "" + table.pagesWith(a[1], a[2], a[3] % 2 == 0);
            case 17: return "" + table.changedBy(a[1], a[2], a[3]);
            case 18: return "" + table.pagesWithout(a[1]);
            case 19: return "" + table.meanLeft();
            default: return "" + table.digest();
        }
    }

    private String ofModel(int[] a) {
        switch (a[0]) {
            case 0: return "" + model.column(a[1] == 1, a[2]);
            case 1: return "" + model.formula(a[1], a[2], a[3], a[4]);
            case 2: return "" + model.row();
            case 3: return "" + model.cut(a[1]);
            case 4: return "" + model.number(a[1], a[2], a[3]);
            case 5: return "" + model.text(a[1], a[2], a[3], a[4]);
            case 6: return "" + model.span(a[1], a[2], a[3] == 1);
            case 7: return "" + model.note(a[1], a[2]);
            case 8: return "" + model.keep(a[1], a[3] == 1);
            case 9: return "" + model.paper(a[1], a[2]);
            case 10: return "" + model.cell(a[1], a[2], a[3]);
            case 11: return "" + model.ofColumn(a[1], a[2]);
            case 12: return "" + model.ofRow(a[1], a[2]);
            case 13: return "" + model.ofPage(a[1], a[2]);
            case 14: return "" + model.carried(a[1], a[2]);
            case 15: return "" + model.many(a[1]);
            case 16: return "" + model.pagesWith(a[1], a[2], a[3] % 2 == 0);
            case 17: return "" + model.changedBy(a[1], a[2], a[3]);
            case 18: return "" + model.pagesWithout(a[1]);
            case 19: return "" + model.meanLeft();
            default: return "" + model.digest();
        }
    }
}
