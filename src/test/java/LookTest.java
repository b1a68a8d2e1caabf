/** Promises 5, 6 and 7: rows, key and value. */
public final class LookTest {
    public static void main(String[] args) {
        BlockExecutor x = Check.fill(new BlockExecutor(3), 0, 11, 21, -12, -22, 13, 23);
        Check.fillCounting(x, 7, 60);
        x.store(3);
        long before = x.transfers();
        Check.due("rows(0)", x.rows(0), 3);
        Check.due("rows(7)", x.rows(7), 60);
        Check.due("rows(3), an empty table", x.rows(3), 0);
        Check.due("rows(1), no table", x.rows(1), -1);
        Check.due("key(0, 0)", x.key(0, 0), 11);
        Check.due("key(0, 1)", x.key(0, 1), -12);
        Check.due("key(0, 2)", x.key(0, 2), 13);
        Check.due("value(0, 0)", x.value(0, 0), 21);
        Check.due("value(0, 1)", x.value(0, 1), -22);
        Check.due("value(0, 2)", x.value(0, 2), 23);
        Check.due("key(7, 59)", x.key(7, 59), 59);
        Check.due("value(7, 59)", x.value(7, 59), 59);
        int[] slots = {-1, 8, Integer.MIN_VALUE, Integer.MAX_VALUE};
        for (int slot : slots) {
            Check.due("rows(" + slot + ")", x.rows(slot), -1);
            Check.due("key(" + slot + ", 0)", x.key(slot, 0), 0);
            Check.due("value(" + slot + ", 0)", x.value(slot, 0), 0);
        }
        dueNoRow(x, 0, 3);
        dueNoRow(x, 0, 60);
        dueNoRow(x, 0, -1);
        dueNoRow(x, 7, 60);
        dueNoRow(x, 7, Integer.MAX_VALUE);
        dueNoRow(x, 7, Integer.MIN_VALUE);
        dueNoRow(x, 3, 0);
        dueNoRow(x, 1, 0);
        Check.dueCost("looking", x, before, 0);
        Check.end();
    }

    private static void dueNoRow(BlockExecutor x, int slot, int place) {
        Check.due("key(" + slot + ", " + place + ")", x.key(slot, place), 0);
        Check.due("value(" + slot + ", " + place + ")", x.value(slot, place), 0);
    }
}
