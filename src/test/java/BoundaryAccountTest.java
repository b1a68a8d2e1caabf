/**
 * The sentences of the promises 14 and 15, and of the 512 calls, that name a boundary case: one
 * test for each.
 */
public final class BoundaryAccountTest {
    private static final int LOW = Integer.MIN_VALUE;
    private static final int HIGH = Integer.MAX_VALUE;

    public static void main(String[] args) {
        Check.sentence("14: All transfers up to now.",
                BoundaryAccountTest::allTransfers);
        Check.sentence("15: How many blocks all tables take together.",
                BoundaryAccountTest::allBlocks);
        Check.sentence("An object is used for at most 512 calls after it has been made;",
                BoundaryAccountTest::upToTheLastCall);
        Check.sentence("what later calls answer is free. (No call may ever throw or fail to end.)",
                BoundaryAccountTest::laterCallsEnd);
        Check.end();
    }

    private static void allTransfers() {
        BlockExecutor x = new BlockExecutor(3);
        Check.due("at first", x.transfers(), 0);
        Check.due("store(0) of no rows", x.store(0), 0);
        Check.due("after what costs nothing", x.transfers(), 0);
        Check.fill(x, 1, 1, 1);
        Check.due("after one block", x.transfers(), 1);
        Check.due("asking is no transfer", x.transfers(), 1);
        Check.due("drop(1)", x.drop(1), 1);
        Check.due("after drop", x.transfers(), 1);
        Check.fillCounting(x, 1, 5);
        Check.due("after three blocks", x.transfers(), 3);
        Check.due("sort(1, 0, 2)", x.sort(1, 0, 2), 5);
        Check.due("after sort", x.transfers(), 3 + 4);
        Check.due("sort(1, 0, 2) again", x.sort(1, 0, 2), BlockExecutor.TAKEN);
        Check.due("after a refusal", x.transfers(), 7);
        Check.due("select(1, 0, 0, 3)", x.select(1, 0, 0, 3), 1);
        Check.due("after select", x.transfers(), 7 + 3);
        Check.due("distinct(1, 4)", x.distinct(1, 4), 5);
        Check.due("after distinct", x.transfers(), 10 + 8);
        Check.due("group(1, 5)", x.group(1, 5), 5);
        Check.due("after group", x.transfers(), 18 + 2 + 1 + 1 + 2);
        Check.due("combine(3, 1, 1, 6)", x.combine(3, 1, 1, 6), 10);
        Check.due("after combine", x.transfers(), 24 + 4 + 4 + 2 + 2 + 3);
        Check.due("join(1, 3, 7)", x.join(1, 3, 7), 1);
        Check.due("after join", x.transfers(), 39 + 1 + 2 + 1);
        for (int slot = 0; slot < 8; slot++) {
            Check.due("drop", x.drop(slot) >= 0, true);
        }
        Check.due("after all are dropped", x.transfers(), 43);
    }

    private static void allBlocks() {
        BlockExecutor x = new BlockExecutor(3);
        Check.due("at first", x.blocks(), 0);
        Check.due("put", x.put(1, 1), true);
        Check.due("the input takes none", x.blocks(), 0);
        Check.due("store(0)", x.store(0), 1);
        for (int slot = 1; slot < 8; slot++) {
            Check.due("sort", x.sort(0, 0, slot), 1);
            Check.due("each table by itself", x.blocks(), slot + 1);
        }
        for (int slot = 0; slot < 8; slot++) {
            Check.due("drop", x.drop(slot), 1);
            Check.due("after drop", x.blocks(), 7 - slot);
        }
        Check.due("store(3) of no rows", x.store(3), 0);
        Check.due("a table without rows takes none", x.blocks(), 0);
        Check.fillCounting(x, 0, 4);
        Check.due("4 rows", x.blocks(), 1);
        Check.fillCounting(x, 1, 5);
        Check.due("5 rows more", x.blocks(), 3);
        Check.due("sort refused", x.sort(0, 0, 1), BlockExecutor.TAKEN);
        Check.due("after a refusal", x.blocks(), 3);
        eightFullTables();
    }

    private static void eightFullTables() {
        BlockExecutor x = Check.fillCounting(new BlockExecutor(3), 0, 60);
        for (int slot = 1; slot < 8; slot++) {
            Check.due("sort", x.sort(0, 0, slot), 60);
        }
        Check.due("eight full tables", x.blocks(), 120);
        Check.due("drop(7)", x.drop(7), 60);
        Check.due("combine", x.combine(3, 0, 1, 7), BlockExecutor.FULL);
        Check.due("after FULL", x.blocks(), 105);
    }

    /** The 512th call is answered as the first one is, whichever it is. */
    private static void upToTheLastCall() {
        Check.due("call 512, transfers()", after511Calls().transfers(), 15 + 225 * 120);
        Check.due("call 512, blocks()", after511Calls().blocks(), 15);
        Check.due("call 512, put", after511Calls().put(1, 1), true);
        Check.due("call 512, store", after511Calls().store(7), 0);
        Check.due("call 512, drop", after511Calls().drop(0), 60);
        Check.due("call 512, rows", after511Calls().rows(0), 60);
        Check.due("call 512, key", after511Calls().key(0, 59), 59);
        Check.due("call 512, value", after511Calls().value(0, 58), 58);
        Check.due("call 512, sort", after511Calls().sort(0, 1, 7), 60);
        Check.due("call 512, select", after511Calls().select(0, 1, 3, 7), 3);
        Check.due("call 512, distinct", after511Calls().distinct(0, 7), 60);
        Check.due("call 512, group", after511Calls().group(0, 7), 60);
        Check.due("call 512, combine", after511Calls().combine(3, 0, 0, 7), BlockExecutor.FULL);
        Check.due("call 512, join", after511Calls().join(0, 0, 7), 60);
    }

    /** 60 puts, a store, and 225 times a sort with its drop. */
    private static BlockExecutor after511Calls() {
        BlockExecutor x = Check.fillCounting(new BlockExecutor(3), 0, 60);
        for (int i = 0; i < 225; i++) {
            Check.due("sort", x.sort(0, 0, 1), 60);
            Check.due("drop", x.drop(1), 60);
        }
        return x;
    }

    /** Their answers are not looked at. */
    private static void laterCallsEnd() {
        int[] numbers = {0, 1, 2, 3, 4, 7, 8, -1, LOW, HIGH};
        BlockExecutor x = after511Calls();
        for (int a : numbers) {
            for (int b : numbers) {
                for (int c : numbers) {
                    x.put(a, b);
                    x.store(c);
                    x.rows(a);
                    x.key(a, b);
                    x.value(a, b);
                    x.sort(a, b, c);
                    x.select(a, b, c, b);
                    x.distinct(a, b);
                    x.group(a, b);
                    x.combine(a, b, c, b);
                    x.join(a, b, c);
                    x.transfers();
                    x.blocks();
                    x.drop(b);
                }
            }
        }
    }
}
