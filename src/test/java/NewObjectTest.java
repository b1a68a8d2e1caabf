/** Promise 1: a new object, and what its frames become. */
public final class NewObjectTest {
    public static void main(String[] args) {
        int[] asked = {Integer.MIN_VALUE, -1, 0, 1, 2, 3, 4, 5, 6, 7, 100, Integer.MAX_VALUE};
        int[] frames = {3, 3, 3, 3, 3, 3, 4, 5, 6, 6, 6, 6};
        // The sort costs of 60 and of 24 rows tell the frames apart.
        int[] costOf60 = {0, 0, 0, 120, 90, 60, 60};
        int[] costOf24 = {0, 0, 0, 24, 24, 24, 12};
        for (int i = 0; i < asked.length; i++) {
            isNew(asked[i]);
            dueSortCost(asked[i], 60, costOf60[frames[i]]);
            dueSortCost(asked[i], 24, costOf24[frames[i]]);
        }
        twoObjectsShareNothing();
        Check.end();
    }

    private static void isNew(int frames) {
        BlockExecutor x = new BlockExecutor(frames);
        Check.due("transfers() of a new object", x.transfers(), 0);
        Check.due("blocks() of a new object", x.blocks(), 0);
        for (int slot = 0; slot < 8; slot++) {
            Check.due("rows(" + slot + ") of a new object", x.rows(slot), -1);
            Check.due("drop(" + slot + ") of a new object", x.drop(slot), BlockExecutor.ABSENT);
        }
        Check.due("store(0) without input", x.store(0), 0);
    }

    private static void dueSortCost(int frames, int rows, int cost) {
        BlockExecutor x = Check.fillCounting(new BlockExecutor(frames), 0, rows);
        long before = x.transfers();
        Check.due("sort", x.sort(0, 0, 1), rows);
        Check.dueCost("sort with frames " + frames + " of " + rows + " rows", x, before, cost);
    }

    private static void twoObjectsShareNothing() {
        BlockExecutor x = Check.fill(new BlockExecutor(3), 0, 1, 2);
        x.put(3, 4);
        BlockExecutor y = new BlockExecutor(6);
        Check.due("rows(0) of the other object", y.rows(0), -1);
        Check.due("transfers() of the other object", y.transfers(), 0);
        Check.due("store(0) of the other object", y.store(0), 0);
        Check.dueTable(x, 0, 1, 2);
    }
}
