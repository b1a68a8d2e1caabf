/** Promise 15: blocks. */
public final class BlocksTest {
    public static void main(String[] args) {
        BlockExecutor x = new BlockExecutor(3);
        Check.due("blocks() at first", x.blocks(), 0);
        x.store(0);
        Check.due("blocks() with an empty table", x.blocks(), 0);
        Check.fillCounting(x, 1, 1);
        Check.due("blocks()", x.blocks(), 1);
        Check.fillCounting(x, 2, 4);
        Check.due("blocks()", x.blocks(), 2);
        Check.fillCounting(x, 7, 5);
        Check.due("blocks()", x.blocks(), 4);
        x.put(1, 1);
        Check.due("blocks() with input", x.blocks(), 4);
        x.drop(2);
        Check.due("blocks() after drop", x.blocks(), 3);
        x.sort(7, 0, 3);
        Check.due("blocks() after sort", x.blocks(), 5);
        x.sort(7, 0, 3);
        Check.due("blocks() after a refusal", x.blocks(), 5);
        eightFullTables();
        Check.end();
    }

    private static void eightFullTables() {
        BlockExecutor x = Check.fillCounting(new BlockExecutor(3), 0, 60);
        for (int slot = 1; slot < 8; slot++) {
            x.sort(0, 0, slot);
        }
        Check.due("blocks() of eight full tables", x.blocks(), 120);
    }
}
