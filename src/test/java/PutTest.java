/** Promise 2: put. */
public final class PutTest {
    public static void main(String[] args) {
        BlockExecutor x = new BlockExecutor(3);
        Check.due("put", x.put(Integer.MIN_VALUE, Integer.MAX_VALUE), true);
        Check.due("put", x.put(0, 0), true);
        Check.due("put", x.put(0, 0), true);
        Check.due("put", x.put(Integer.MAX_VALUE, Integer.MIN_VALUE), true);
        Check.due("transfers() after put", x.transfers(), 0);
        Check.due("blocks() after put", x.blocks(), 0);
        Check.due("store(3)", x.store(3), 4);
        Check.dueTable(x, 3, Integer.MIN_VALUE, Integer.MAX_VALUE, 0, 0, 0, 0,
                Integer.MAX_VALUE, Integer.MIN_VALUE);
        atMostSixty();
        Check.end();
    }

    private static void atMostSixty() {
        BlockExecutor x = new BlockExecutor(3);
        for (int round = 0; round < 2; round++) {
            for (int i = 0; i < 60; i++) {
                Check.due("put number " + i, x.put(i, -i), true);
            }
            Check.due("put number 60", x.put(1000, 1000), false);
            Check.due("put number 61", x.put(1001, 1001), false);
            Check.due("store", x.store(round), 60);
            for (int i = 0; i < 60; i++) {
                Check.due("key at " + i, x.key(round, i), i);
                Check.due("value at " + i, x.value(round, i), -i);
            }
        }
    }
}
