/** Promise 3: store. */
public final class StoreTest {
    public static void main(String[] args) {
        wrongSlots();
        emptiesTheInput();
        costs();
        Check.end();
    }

    private static void wrongSlots() {
        BlockExecutor x = new BlockExecutor(4);
        x.put(1, 2);
        int[] wrong = {-1, 8, 9, Integer.MIN_VALUE, Integer.MAX_VALUE};
        for (int slot : wrong) {
            Check.due("store(" + slot + ")", x.store(slot), BlockExecutor.BAD);
        }
        Check.due("transfers() after refusals", x.transfers(), 0);
        Check.due("store(7)", x.store(7), 1);
        x.put(3, 4);
        x.put(5, 6);
        Check.due("store(7) again", x.store(7), BlockExecutor.TAKEN);
        Check.due("transfers() after TAKEN", x.transfers(), 1);
        Check.dueTable(x, 7, 1, 2);
        Check.due("store(0) has the input still", x.store(0), 2);
        Check.dueTable(x, 0, 3, 4, 5, 6);
        Check.dueTable(x, 7, 1, 2);
    }

    private static void emptiesTheInput() {
        BlockExecutor x = Check.fill(new BlockExecutor(4), 0, 1, 2);
        Check.due("store(1) of no input", x.store(1), 0);
        Check.due("rows(1)", x.rows(1), 0);
        Check.due("store(1) onto an empty table", x.store(1), BlockExecutor.TAKEN);
        Check.due("transfers()", x.transfers(), 1);
        Check.fill(x, 2, 7, 8);
        Check.dueTable(x, 0, 1, 2);
        Check.dueTable(x, 2, 7, 8);
    }

    private static void costs() {
        int[] rows = {0, 1, 3, 4, 5, 8, 9, 59, 60};
        int[] sizes = {0, 1, 1, 1, 2, 2, 3, 15, 15};
        for (int i = 0; i < rows.length; i++) {
            BlockExecutor x = Check.fillCounting(new BlockExecutor(5), 0, rows[i]);
            Check.due("the cost of storing " + rows[i] + " rows", x.transfers(), sizes[i]);
        }
    }
}
