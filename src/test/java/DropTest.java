/** Promise 4: drop. */
public final class DropTest {
    public static void main(String[] args) {
        BlockExecutor x = Check.fillCounting(new BlockExecutor(3), 0, 9);
        Check.fillCounting(x, 7, 2);
        x.store(4);
        int[] wrong = {-1, 8, Integer.MIN_VALUE, Integer.MAX_VALUE};
        for (int slot : wrong) {
            Check.due("drop(" + slot + ")", x.drop(slot), BlockExecutor.BAD);
        }
        Check.due("drop(1)", x.drop(1), BlockExecutor.ABSENT);
        Check.due("drop(0)", x.drop(0), 9);
        Check.due("rows(0)", x.rows(0), -1);
        Check.due("key(0, 1)", x.key(0, 1), 0);
        Check.due("drop(0) again", x.drop(0), BlockExecutor.ABSENT);
        Check.due("drop(4) of an empty table", x.drop(4), 0);
        Check.due("drop(4) again", x.drop(4), BlockExecutor.ABSENT);
        Check.due("transfers()", x.transfers(), 4);
        Check.dueTable(x, 7, 0, 0, 1, 1);
        Check.fill(x, 0, 5, 5);
        Check.dueTable(x, 0, 5, 5);
        Check.due("key(0, 1), which an older table had", x.key(0, 1), 0);
        Check.due("drop(7)", x.drop(7), 2);
        Check.due("blocks()", x.blocks(), 1);
        Check.end();
    }
}
