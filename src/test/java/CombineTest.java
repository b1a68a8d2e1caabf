/** Promise 12: combine. */
public final class CombineTest {
    private static final int LOW = Integer.MIN_VALUE;
    private static final int HIGH = Integer.MAX_VALUE;

    public static void main(String[] args) {
        kinds();
        withItself();
        withNothing();
        full();
        refusals();
        Check.end();
    }

    private static void kinds() {
        int[] a = {5, 5, HIGH, 1, 5, 4, 5, 5, LOW, 0, 5, 5, 2, 2};
        int[] b = {2, 2, 5, 5, 2, 2, 5, 4, LOW, 9, 5, 6};
        BlockExecutor x = Check.fill(new BlockExecutor(3), 0, a);
        Check.fill(x, 1, b);
        int sorts = 4 + 4 + 2 + 2;
        dueCombine(x, 0, sorts + 3, LOW, 0, LOW, 9, 2, 2, 2, 2, 5, 4, 5, 5, 5, 5, 5, 5, 5, 6, HIGH, 1);
        dueCombine(x, 1, sorts + 1, 2, 2, 5, 4, 5, 5);
        dueCombine(x, 2, sorts + 1, LOW, 0, 5, 5, 5, 5, HIGH, 1);
        dueCombine(x, 3, sorts + 4, LOW, 0, LOW, 9, 2, 2, 2, 2, 2, 2, 5, 4, 5, 4,
                5, 5, 5, 5, 5, 5, 5, 5, 5, 6, HIGH, 1);
        Check.dueTable(x, 0, a);
        Check.dueTable(x, 1, b);
    }

    private static void dueCombine(BlockExecutor x, int kind, int cost, int... rows) {
        long before = x.transfers();
        String call = "combine(" + kind + ", 0, 1, 7)";
        Check.due(call, x.combine(kind, 0, 1, 7), rows.length / 2);
        Check.dueTable(x, 7, rows);
        Check.dueCost(call, x, before, cost);
        x.drop(7);
    }

    private static void withItself() {
        BlockExecutor x = Check.fill(new BlockExecutor(3), 0, 2, 1, 1, 1, 2, 1);
        long before = x.transfers();
        Check.due("combine(0, 0, 0, 1)", x.combine(0, 0, 0, 1), 3);
        Check.dueCost("combine(0, 0, 0, 1)", x, before, 2 + 2 + 1 + 1 + 1);
        Check.due("combine(1, 0, 0, 2)", x.combine(1, 0, 0, 2), 3);
        Check.due("combine(2, 0, 0, 3)", x.combine(2, 0, 0, 3), 0);
        Check.due("combine(3, 0, 0, 4)", x.combine(3, 0, 0, 4), 6);
        Check.dueTable(x, 1, 1, 1, 2, 1, 2, 1);
        Check.dueTable(x, 2, 1, 1, 2, 1, 2, 1);
        Check.dueTable(x, 3);
        Check.dueTable(x, 4, 1, 1, 1, 1, 2, 1, 2, 1, 2, 1, 2, 1);
        Check.dueTable(x, 0, 2, 1, 1, 1, 2, 1);
    }

    private static void withNothing() {
        int[] withEmptyB = {2, 0, 2, 2};
        int[] withEmptyA = {2, 0, 0, 2};
        for (int kind = 0; kind <= 3; kind++) {
            BlockExecutor x = Check.fill(new BlockExecutor(3), 0, 1, 0, 0, 1);
            x.store(1);
            long before = x.transfers();
            Check.due("with an empty b", x.combine(kind, 0, 1, 2), withEmptyB[kind]);
            Check.dueCost("combine with an empty b", x, before, kind == 1 ? 3 : 4);
            Check.due("with an empty a", x.combine(kind, 1, 0, 3), withEmptyA[kind]);
            Check.due("both empty", x.combine(kind, 1, 1, 4), 0);
            Check.due("rows(4)", x.rows(4), 0);
            if (withEmptyB[kind] == 2) {
                Check.dueTable(x, 2, 0, 1, 1, 0);
            }
        }
    }

    private static void full() {
        BlockExecutor x = Check.fillCounting(new BlockExecutor(6), 0, 60);
        Check.fill(x, 1, 0, 0);
        Check.fill(x, 2, 0, 1);
        x.store(3);
        long before = x.transfers();
        Check.due("61 rows", x.combine(3, 0, 1, 7), BlockExecutor.FULL);
        Check.due("120 rows", x.combine(3, 0, 0, 7), BlockExecutor.FULL);
        Check.due("61 different rows", x.combine(0, 0, 2, 7), BlockExecutor.FULL);
        Check.due("TAKEN before FULL", x.combine(3, 0, 1, 2), BlockExecutor.TAKEN);
        Check.due("ABSENT before FULL", x.combine(3, 0, 6, 7), BlockExecutor.ABSENT);
        Check.due("rows(7)", x.rows(7), -1);
        Check.due("blocks()", x.blocks(), 17);
        Check.dueCost("refusals", x, before, 0);
        Check.due("60 rows of kind 0", x.combine(0, 0, 1, 7), 60);
        x.drop(7);
        Check.due("60 rows of kind 3", x.combine(3, 3, 0, 7), 60);
        Check.due("key(7, 59)", x.key(7, 59), 59);
        x.drop(7);
        Check.due("one of 61 rows", x.combine(1, 0, 1, 7), 1);
        x.drop(7);
        Check.due("61 rows, one taken out", x.combine(2, 0, 1, 7), 59);
        Check.due("store(6) after FULL", x.store(6), 0);
    }

    private static void refusals() {
        BlockExecutor x = Check.fill(new BlockExecutor(3), 0, 2, 1);
        Check.fill(x, 1, 7, 7);
        int[] wrong = {-1, 8, LOW, HIGH};
        for (int slot : wrong) {
            Check.due("BAD a", x.combine(0, slot, 1, 2), BlockExecutor.BAD);
            Check.due("BAD b", x.combine(0, 0, slot, 2), BlockExecutor.BAD);
            Check.due("BAD into", x.combine(0, 0, 1, slot), BlockExecutor.BAD);
            Check.due("BAD before ABSENT", x.combine(0, 5, slot, 2), BlockExecutor.BAD);
            Check.due("BAD before ABSENT", x.combine(0, slot, 5, 2), BlockExecutor.BAD);
            Check.due("BAD before TAKEN", x.combine(0, 0, slot, 1), BlockExecutor.BAD);
        }
        int[] kinds = {-1, 4, LOW, HIGH};
        for (int kind : kinds) {
            Check.due("BAD kind", x.combine(kind, 0, 1, 2), BlockExecutor.BAD);
            Check.due("BAD kind before ABSENT", x.combine(kind, 5, 1, 2), BlockExecutor.BAD);
            Check.due("BAD kind before TAKEN", x.combine(kind, 0, 1, 1), BlockExecutor.BAD);
        }
        Check.due("ABSENT a", x.combine(0, 5, 1, 2), BlockExecutor.ABSENT);
        Check.due("ABSENT b", x.combine(0, 0, 5, 2), BlockExecutor.ABSENT);
        Check.due("ABSENT before TAKEN", x.combine(0, 0, 5, 1), BlockExecutor.ABSENT);
        Check.due("TAKEN", x.combine(0, 0, 0, 1), BlockExecutor.TAKEN);
        Check.due("TAKEN by a", x.combine(0, 0, 1, 0), BlockExecutor.TAKEN);
        Check.due("TAKEN by b", x.combine(0, 0, 1, 1), BlockExecutor.TAKEN);
        Check.due("transfers()", x.transfers(), 2);
        Check.dueTable(x, 0, 2, 1);
        Check.dueTable(x, 1, 7, 7);
        Check.due("rows(2)", x.rows(2), -1);
    }
}
