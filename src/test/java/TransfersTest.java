/** Promise 14: transfers add up over all calls, and stay when tables go. */
public final class TransfersTest {
    public static void main(String[] args) {
        BlockExecutor x = new BlockExecutor(3);
        Check.due("transfers() at first", x.transfers(), 0);
        Check.fillCounting(x, 0, 17);
        Check.due("after store", x.transfers(), 5);
        x.sort(0, 0, 1);
        Check.due("after sort", x.transfers(), 5 + 20);
        x.select(0, 0, 3, 2);
        Check.due("after select", x.transfers(), 25 + 6);
        x.distinct(2, 3);
        Check.due("after distinct", x.transfers(), 31 + 2 + 1 + 1);
        x.group(2, 4);
        Check.due("after group", x.transfers(), 35 + 1 + 1);
        x.combine(3, 2, 2, 5);
        Check.due("after combine", x.transfers(), 37 + 2 + 2 + 1 + 1 + 2);
        x.join(0, 2, 6);
        Check.due("after join", x.transfers(), 45 + 1 + 5 + 1);
        x.join(0, 2, 6);
        x.group(7, 6);
        x.sort(0, 9, 7);
        Check.due("after refusals", x.transfers(), 52);
        for (int slot = 0; slot < 8; slot++) {
            x.drop(slot);
            x.rows(slot);
            x.key(slot, 0);
            x.value(slot, 0);
        }
        x.blocks();
        x.put(1, 1);
        Check.due("after calls without cost", x.transfers(), 52);
        growsOverManyCalls();
        Check.end();
    }

    private static void growsOverManyCalls() {
        BlockExecutor x = Check.fillCounting(new BlockExecutor(3), 0, 60);
        for (int i = 1; i <= 200; i++) {
            x.sort(0, 0, 1);
            x.drop(1);
        }
        Check.due("after 200 sorts", x.transfers(), 15 + 200 * 120);
    }
}
