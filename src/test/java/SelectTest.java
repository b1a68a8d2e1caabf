/** Promise 9: select. */
public final class SelectTest {
    private static final int LOW = Integer.MIN_VALUE;
    private static final int HIGH = Integer.MAX_VALUE;

    public static void main(String[] args) {
        int[] rows = {5, 1, 3, 2, HIGH, 3, 4, 4, LOW, 5, 3, 2, 6, 7, 2, 8, -3, 9};
        BlockExecutor x = Check.fill(new BlockExecutor(3), 0, rows);
        dueSelect(x, 3, 5, 3 + 1, 5, 1, 3, 2, 4, 4, 3, 2);
        dueSelect(x, 2, 6, 3 + 2, 5, 1, 3, 2, 4, 4, 3, 2, 6, 7, 2, 8);
        dueSelect(x, 3, 3, 3 + 1, 3, 2, 3, 2);
        dueSelect(x, 5, 3, 3);
        dueSelect(x, 7, 100, 3);
        dueSelect(x, LOW, HIGH, 3 + 3, rows);
        dueSelect(x, HIGH, HIGH, 3 + 1, HIGH, 3);
        dueSelect(x, LOW, LOW, 3 + 1, LOW, 5);
        dueSelect(x, HIGH, LOW, 3);
        Check.dueTable(x, 0, rows);
        ofNothing();
        refusals();
        Check.end();
    }

    private static void dueSelect(BlockExecutor x, int low, int high, int cost, int... rows) {
        long before = x.transfers();
        String call = "select(0, " + low + ", " + high + ", 6)";
        Check.due(call, x.select(0, low, high, 6), rows.length / 2);
        Check.dueCost(call, x, before, cost);
        Check.dueTable(x, 6, rows);
        x.drop(6);
    }

    private static void ofNothing() {
        BlockExecutor x = new BlockExecutor(3);
        x.store(0);
        Check.due("select of an empty table", x.select(0, LOW, HIGH, 1), 0);
        Check.due("rows(1)", x.rows(1), 0);
        Check.due("transfers()", x.transfers(), 0);
    }

    private static void refusals() {
        BlockExecutor x = Check.fill(new BlockExecutor(3), 0, 2, 1);
        Check.fill(x, 1, 7, 7);
        int[] wrong = {-1, 8, LOW, HIGH};
        for (int slot : wrong) {
            Check.due("BAD from", x.select(slot, 0, 9, 2), BlockExecutor.BAD);
            Check.due("BAD into", x.select(0, 0, 9, slot), BlockExecutor.BAD);
            Check.due("BAD before ABSENT", x.select(5, 0, 9, slot), BlockExecutor.BAD);
            Check.due("BAD before TAKEN", x.select(slot, 0, 9, 1), BlockExecutor.BAD);
        }
        Check.due("ABSENT", x.select(5, 0, 9, 2), BlockExecutor.ABSENT);
        Check.due("ABSENT before TAKEN", x.select(5, 0, 9, 1), BlockExecutor.ABSENT);
        Check.due("TAKEN", x.select(0, 0, 9, 1), BlockExecutor.TAKEN);
        Check.due("TAKEN by itself", x.select(0, 0, 9, 0), BlockExecutor.TAKEN);
        Check.due("transfers()", x.transfers(), 2);
        Check.dueTable(x, 0, 2, 1);
        Check.dueTable(x, 1, 7, 7);
        Check.due("rows(2)", x.rows(2), -1);
    }
}
