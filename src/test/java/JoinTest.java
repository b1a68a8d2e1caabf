/** Promise 13: join. */
public final class JoinTest {
    private static final int LOW = Integer.MIN_VALUE;
    private static final int HIGH = Integer.MAX_VALUE;

    public static void main(String[] args) {
        oneChunk();
        parts();
        digitsOfNumbersBelowZero();
        secondLevel();
        lastLevel();
        partsWithoutPartner();
        edgeOfMemory();
        withNothing();
        withItself();
        full();
        refusals();
        Check.end();
    }

    private static void dueJoin(int frames, int[] a, int[] b, int cost, int... rows) {
        BlockExecutor x = Check.fill(new BlockExecutor(frames), 0, a);
        Check.fill(x, 1, b);
        long before = x.transfers();
        Check.due("join(0, 1, 2)", x.join(0, 1, 2), rows.length / 2);
        Check.dueTable(x, 2, rows);
        Check.dueCost("join(0, 1, 2)", x, before, cost);
        Check.dueTable(x, 0, a);
        Check.dueTable(x, 1, b);
    }

    private static void oneChunk() {
        dueJoin(3, new int[] {1, 7, 2, 8, 3, 7, 4, 5}, new int[] {7, 70, 9, 90, 7, 71, 8, 80},
                1 + 1 + 2, 1, 70, 1, 71, 2, 80, 3, 70, 3, 71);
        dueJoin(6, new int[] {LOW, HIGH, HIGH, LOW}, new int[] {LOW, HIGH, HIGH, LOW},
                1 + 1 + 1, LOW, LOW, HIGH, HIGH);
        dueJoin(3, new int[] {1, 2}, new int[] {3, 2}, 1 + 1);
    }

    private static void parts() {
        dueJoin(3, new int[] {1, 1, 2, 0, 3, 3, 4, 2}, new int[] {0, 10, 1, 11, 2, 12, 3, 13, 0, 14},
                (1 + 2) + (1 + 1 + 1 + 1) + (1 + 1) + (1 + 1) + 2,
                2, 10, 2, 14, 4, 12, 1, 11, 3, 13);
    }

    private static void digitsOfNumbersBelowZero() {
        dueJoin(4, new int[] {1, -1, 2, -26, 3, -27},
                new int[] {-1, 1, -26, 2, -27, 3, 5, 0, 5, 0, 5, 0, 5, 0, 5, 0, 5, 0},
                (1 + 3) + (1 + 1 + 1) + (1 + 1 + 2) + (1 + 1) + (1 + 1) + (2 + 1) + 1,
                3, 3, 2, 2, 1, 1);
    }

    private static void secondLevel() {
        dueJoin(3, new int[] {1, 4, 2, 2, 3, 6, 4, 0}, new int[] {4, 10, 2, 11, 6, 12, 0, 13, 0, 14},
                (1 + 2 + 1 + 2) + (1 + 2 + 1 + 1 + 1 + 1) + (1 + 1) + (1 + 1) + 2,
                1, 10, 4, 13, 4, 14, 2, 11, 3, 12);
    }

    private static void lastLevel() {
        dueJoin(3, new int[] {1, 5, 2, 5}, new int[] {5, 10, 5, 11, 5, 12, 5, 13, 5, 14},
                3 * (1 + 2 + 1 + 2) + 2 + 2 * 1 + 3,
                1, 10, 1, 11, 1, 12, 1, 13, 2, 10, 2, 11, 2, 12, 2, 13, 1, 14, 2, 14);
    }

    private static void partsWithoutPartner() {
        dueJoin(3, new int[] {1, 1}, new int[] {0, 1, 0, 2, 0, 3, 0, 4, 0, 5}, (1 + 2) + (1 + 2));
    }

    /** B with as many rows as go into memory is read at once; with one more it is partitioned. */
    private static void edgeOfMemory() {
        int[] atOnce = {3, 4, 5, 6};
        int[] inParts = {9, 11, 13, 15};
        for (int frames = 3; frames <= 6; frames++) {
            for (int more = 0; more <= 1; more++) {
                BlockExecutor x = Check.fill(new BlockExecutor(frames), 0, 0, 0);
                Check.fillCounting(x, 1, 4 * (frames - 2) + more);
                long before = x.transfers();
                Check.due("join(0, 1, 2)", x.join(0, 1, 2), 1);
                Check.dueCost("join with " + frames + " frames", x, before,
                        more == 0 ? atOnce[frames - 3] : inParts[frames - 3]);
            }
        }
    }

    private static void withNothing() {
        BlockExecutor x = Check.fillCounting(new BlockExecutor(3), 0, 60);
        x.store(1);
        long before = x.transfers();
        Check.due("an empty a", x.join(1, 0, 2), 0);
        Check.due("an empty b", x.join(0, 1, 3), 0);
        Check.due("both empty", x.join(1, 1, 4), 0);
        Check.due("rows(2)", x.rows(2), 0);
        Check.due("rows(3)", x.rows(3), 0);
        Check.due("rows(4)", x.rows(4), 0);
        Check.dueCost("joins with nothing", x, before, 0);
    }

    private static void withItself() {
        int[] rows = {1, 2, 2, 3, 3, 1, 2, 4, 5, 2};
        BlockExecutor x = Check.fill(new BlockExecutor(4), 0, rows);
        long before = x.transfers();
        Check.due("join(0, 0, 1)", x.join(0, 0, 1), 6);
        Check.dueTable(x, 1, 1, 3, 1, 4, 2, 1, 3, 2, 5, 3, 5, 4);
        Check.dueCost("join(0, 0, 1)", x, before, 2 + 2 + 2);
        Check.dueTable(x, 0, rows);
    }

    private static void full() {
        BlockExecutor x = Check.fillSame(new BlockExecutor(3), 0, 60, 1, 1);
        Check.fill(x, 1, 1, 1);
        Check.fill(x, 2, 0, 1, 0, 1, 0, 1, 0, 1, 0, 1, 0, 1, 0, 2);
        Check.fill(x, 3, 1, 0, 1, 0, 1, 0, 1, 0, 1, 0, 1, 0, 1, 0, 1, 0, 1, 0, 1, 0, 2, 0);
        long before = x.transfers();
        Check.due("3600 rows", x.join(0, 0, 7), BlockExecutor.FULL);
        Check.due("61 rows", x.join(2, 3, 7), BlockExecutor.FULL);
        Check.due("TAKEN before FULL", x.join(2, 3, 1), BlockExecutor.TAKEN);
        Check.due("ABSENT before FULL", x.join(0, 5, 7), BlockExecutor.ABSENT);
        Check.due("rows(7)", x.rows(7), -1);
        Check.due("key(7, 0)", x.key(7, 0), 0);
        Check.due("drop(7)", x.drop(7), BlockExecutor.ABSENT);
        Check.due("blocks()", x.blocks(), 15 + 1 + 2 + 3);
        Check.dueCost("refusals", x, before, 0);
        Check.due("60 rows, b small", x.join(0, 1, 7), 60);
        Check.dueCost("join(0, 1, 7)", x, before, 1 + 15 + 15);
        before = x.transfers();
        Check.due("60 rows, a small", x.join(1, 0, 6), 60);
        Check.dueCost("join(1, 0, 6)", x, before, 3 * (1 + 15 + 1 + 15) + 15 + 15 + 15);
    }

    private static void refusals() {
        BlockExecutor x = Check.fill(new BlockExecutor(3), 0, 2, 1);
        Check.fill(x, 1, 7, 7);
        int[] wrong = {-1, 8, LOW, HIGH};
        for (int slot : wrong) {
            Check.due("BAD a", x.join(slot, 1, 2), BlockExecutor.BAD);
            Check.due("BAD b", x.join(0, slot, 2), BlockExecutor.BAD);
            Check.due("BAD into", x.join(0, 1, slot), BlockExecutor.BAD);
            Check.due("BAD before ABSENT", x.join(5, slot, 2), BlockExecutor.BAD);
            Check.due("BAD before ABSENT", x.join(slot, 5, 2), BlockExecutor.BAD);
            Check.due("BAD before TAKEN", x.join(0, slot, 1), BlockExecutor.BAD);
        }
        Check.due("ABSENT a", x.join(5, 1, 2), BlockExecutor.ABSENT);
        Check.due("ABSENT b", x.join(0, 5, 2), BlockExecutor.ABSENT);
        Check.due("ABSENT before TAKEN", x.join(0, 5, 1), BlockExecutor.ABSENT);
        Check.due("TAKEN", x.join(0, 0, 1), BlockExecutor.TAKEN);
        Check.due("TAKEN by a", x.join(0, 1, 0), BlockExecutor.TAKEN);
        Check.due("TAKEN by b", x.join(0, 1, 1), BlockExecutor.TAKEN);
        Check.due("transfers()", x.transfers(), 2);
        Check.dueTable(x, 0, 2, 1);
        Check.dueTable(x, 1, 7, 7);
        Check.due("rows(2)", x.rows(2), -1);
    }
}
