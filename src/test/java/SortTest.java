/** Promise 8: sort. */
public final class SortTest {
    private static final int LOW = Integer.MIN_VALUE;
    private static final int HIGH = Integer.MAX_VALUE;

    /** The number of passes over the blocks, for M and for 0 .. 15 blocks. */
    private static final int[][] PASSES = {
        {0, 1, 1, 1, 2, 2, 2, 3, 3, 3, 3, 3, 3, 4, 4, 4},
        {0, 1, 1, 1, 1, 2, 2, 2, 2, 2, 2, 2, 2, 3, 3, 3},
        {0, 1, 1, 1, 1, 1, 2, 2, 2, 2, 2, 2, 2, 2, 2, 2},
        {0, 1, 1, 1, 1, 1, 1, 2, 2, 2, 2, 2, 2, 2, 2, 2},
    };

    public static void main(String[] args) {
        orders();
        stays();
        costs();
        refusals();
        Check.end();
    }

    private static void orders() {
        int[] rows = {5, 9, LOW, 3, 5, HIGH, 0, LOW, HIGH, 3, 5, 9, LOW, LOW, -1, 3};
        BlockExecutor x = Check.fill(new BlockExecutor(3), 0, rows);
        Check.due("sort(0, 0, 1)", x.sort(0, 0, 1), 8);
        Check.dueTable(x, 1, LOW, 3, LOW, LOW, -1, 3, 0, LOW, 5, 9, 5, HIGH, 5, 9, HIGH, 3);
        Check.due("sort(0, 1, 2)", x.sort(0, 1, 2), 8);
        Check.dueTable(x, 2, 0, LOW, LOW, LOW, LOW, 3, HIGH, 3, -1, 3, 5, 9, 5, 9, 5, HIGH);
        Check.due("sort(0, 2, 3)", x.sort(0, 2, 3), 8);
        Check.dueTable(x, 3, LOW, LOW, LOW, 3, -1, 3, 0, LOW, 5, 9, 5, 9, 5, HIGH, HIGH, 3);
        Check.dueTable(x, 0, rows);
    }

    private static void stays() {
        BlockExecutor x = Check.fill(new BlockExecutor(3), 0, 2, 1, 1, 2);
        x.sort(0, 0, 1);
        x.drop(0);
        Check.dueTable(x, 1, 1, 2, 2, 1);
    }

    private static void costs() {
        for (int frames = 3; frames <= 6; frames++) {
            for (int rows = 0; rows <= 60; rows++) {
                BlockExecutor x = Check.fillCounting(new BlockExecutor(frames), 0, rows);
                long before = x.transfers();
                Check.due("sort of " + rows + " rows", x.sort(0, rows % 3, 7), rows);
                int size = (rows + 3) / 4;
                Check.dueCost("sort of " + rows + " rows with " + frames + " frames", x, before,
                        2L * size * PASSES[frames - 3][size]);
            }
        }
    }

    private static void refusals() {
        BlockExecutor x = Check.fill(new BlockExecutor(3), 0, 2, 1, 1, 2);
        Check.fill(x, 1, 7, 7);
        long before = x.transfers();
        int[] wrong = {-1, 8, LOW, HIGH};
        for (int slot : wrong) {
            Check.due("sort(" + slot + ", 0, 2)", x.sort(slot, 0, 2), BlockExecutor.BAD);
            Check.due("sort(0, 0, " + slot + ")", x.sort(0, 0, slot), BlockExecutor.BAD);
        }
        int[] orders = {-1, 3, LOW, HIGH};
        for (int order : orders) {
            Check.due("sort(0, " + order + ", 2)", x.sort(0, order, 2), BlockExecutor.BAD);
        }
        Check.due("BAD before ABSENT", x.sort(5, 3, 2), BlockExecutor.BAD);
        Check.due("BAD before ABSENT", x.sort(5, 0, 8), BlockExecutor.BAD);
        Check.due("BAD before TAKEN", x.sort(0, 3, 1), BlockExecutor.BAD);
        Check.due("ABSENT", x.sort(5, 0, 2), BlockExecutor.ABSENT);
        Check.due("ABSENT before TAKEN", x.sort(5, 0, 1), BlockExecutor.ABSENT);
        Check.due("ABSENT into itself", x.sort(5, 0, 5), BlockExecutor.ABSENT);
        Check.due("TAKEN", x.sort(0, 0, 1), BlockExecutor.TAKEN);
        Check.due("TAKEN by itself", x.sort(0, 0, 0), BlockExecutor.TAKEN);
        Check.dueCost("refusals", x, before, 0);
        Check.dueTable(x, 0, 2, 1, 1, 2);
        Check.dueTable(x, 1, 7, 7);
        Check.due("rows(2)", x.rows(2), -1);
    }
}
