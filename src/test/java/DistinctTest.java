/** Promise 10: distinct. */
public final class DistinctTest {
    private static final int LOW = Integer.MIN_VALUE;
    private static final int HIGH = Integer.MAX_VALUE;

    public static void main(String[] args) {
        int[] rows = {3, 1, 3, 2, HIGH, LOW, 3, 1, LOW, HIGH, 1, 3, 3, 1, HIGH, LOW, 0, 0};
        BlockExecutor x = Check.fill(new BlockExecutor(3), 0, rows);
        long before = x.transfers();
        Check.due("distinct(0, 1)", x.distinct(0, 1), 6);
        Check.dueTable(x, 1, LOW, HIGH, 0, 0, 1, 3, 3, 1, 3, 2, HIGH, LOW);
        Check.dueCost("distinct(0, 1)", x, before, 6 + 3 + 2);
        Check.dueTable(x, 0, rows);
        ofMany();
        ofNothing();
        refusals();
        Check.end();
    }

    private static void ofMany() {
        BlockExecutor x = Check.fillSame(new BlockExecutor(4), 0, 60, 7, -7);
        Check.due("distinct of the same", x.distinct(0, 1), 1);
        Check.dueTable(x, 1, 7, -7);
        Check.due("transfers()", x.transfers(), 15 + 90 + 15 + 1);
        Check.fillCounting(x, 2, 60);
        long before = x.transfers();
        Check.due("distinct of different ones", x.distinct(2, 3), 60);
        Check.dueCost("distinct of different ones", x, before, 90 + 15 + 15);
    }

    private static void ofNothing() {
        BlockExecutor x = new BlockExecutor(3);
        x.store(0);
        Check.due("distinct of an empty table", x.distinct(0, 1), 0);
        Check.due("rows(1)", x.rows(1), 0);
        Check.due("transfers()", x.transfers(), 0);
    }

    private static void refusals() {
        BlockExecutor x = Check.fill(new BlockExecutor(3), 0, 2, 1, 2, 1);
        Check.fill(x, 1, 7, 7);
        int[] wrong = {-1, 8, LOW, HIGH};
        for (int slot : wrong) {
            Check.due("BAD from", x.distinct(slot, 2), BlockExecutor.BAD);
            Check.due("BAD into", x.distinct(0, slot), BlockExecutor.BAD);
            Check.due("BAD before ABSENT", x.distinct(5, slot), BlockExecutor.BAD);
            Check.due("BAD before TAKEN", x.distinct(slot, 1), BlockExecutor.BAD);
        }
        Check.due("ABSENT", x.distinct(5, 2), BlockExecutor.ABSENT);
        Check.due("ABSENT before TAKEN", x.distinct(5, 1), BlockExecutor.ABSENT);
        Check.due("TAKEN", x.distinct(0, 1), BlockExecutor.TAKEN);
        Check.due("TAKEN by itself", x.distinct(0, 0), BlockExecutor.TAKEN);
        Check.due("transfers()", x.transfers(), 2);
        Check.dueTable(x, 0, 2, 1, 2, 1);
        Check.dueTable(x, 1, 7, 7);
        Check.due("rows(2)", x.rows(2), -1);
    }
}
