/** Promise 11: group. */
public final class GroupTest {
    private static final int LOW = Integer.MIN_VALUE;
    private static final int HIGH = Integer.MAX_VALUE;

    public static void main(String[] args) {
        oneRound();
        twoRounds();
        roundsOfDifferentKeys();
        sumsWrap();
        ofNothing();
        refusals();
        Check.end();
    }

    private static void oneRound() {
        int[] rows = {9, 1, -4, 2, 9, 3, 5, 4, -4, 5, 0, 6, 9, 7};
        BlockExecutor x = Check.fill(new BlockExecutor(3), 0, rows);
        Check.due("group(0, 1)", x.group(0, 1), 4);
        Check.dueTable(x, 1, 9, 11, -4, 7, 5, 4, 0, 6);
        Check.due("transfers()", x.transfers(), 2 + 2 + 1);
        Check.dueTable(x, 0, rows);
    }

    /** With 3 frames a round has 4 keys; a key of the round is summed also behind one that has to wait. */
    private static void twoRounds() {
        BlockExecutor x = Check.fill(new BlockExecutor(3), 0,
                4, 1, 3, 1, 2, 1, 1, 1, 0, 10, 4, 2, 0, 20, -1, 5, 3, 2, 0, 30);
        long before = x.transfers();
        Check.due("group(0, 1)", x.group(0, 1), 6);
        Check.dueTable(x, 1, 4, 3, 3, 3, 2, 1, 1, 1, 0, 60, -1, 5);
        Check.dueCost("group(0, 1)", x, before, (3 + 1) + (1 + 0) + 2);
    }

    /** The cost of 60 rows with 60 keys, for 4, 8, 12 and 16 keys in a round. */
    private static void roundsOfDifferentKeys() {
        int[] costs = {
            15 + 2 * (14 + 13 + 12 + 11 + 10 + 9 + 8 + 7 + 6 + 5 + 4 + 3 + 2 + 1) + 15,
            15 + 2 * (13 + 11 + 9 + 7 + 5 + 3 + 1) + 15,
            15 + 2 * (12 + 9 + 6 + 3) + 15,
            15 + 2 * (11 + 7 + 3) + 15,
        };
        for (int frames = 3; frames <= 6; frames++) {
            BlockExecutor x = Check.fillCounting(new BlockExecutor(frames), 0, 60);
            long before = x.transfers();
            Check.due("group of 60 keys", x.group(0, 1), 60);
            Check.dueCost("group with " + frames + " frames", x, before, costs[frames - 3]);
            for (int i = 0; i < 60; i++) {
                Check.due("key at " + i, x.key(1, i), i);
                Check.due("value at " + i, x.value(1, i), i);
            }
        }
    }

    private static void sumsWrap() {
        BlockExecutor x = Check.fill(new BlockExecutor(3), 0,
                HIGH, HIGH, LOW, LOW, HIGH, 1, LOW, -1, HIGH, HIGH);
        Check.due("group(0, 1)", x.group(0, 1), 2);
        Check.dueTable(x, 1, HIGH, -1, LOW, HIGH);
    }

    private static void ofNothing() {
        BlockExecutor x = new BlockExecutor(3);
        x.store(0);
        Check.due("group of an empty table", x.group(0, 1), 0);
        Check.due("rows(1)", x.rows(1), 0);
        Check.due("transfers()", x.transfers(), 0);
    }

    private static void refusals() {
        BlockExecutor x = Check.fill(new BlockExecutor(3), 0, 2, 1, 2, 1);
        Check.fill(x, 1, 7, 7);
        int[] wrong = {-1, 8, LOW, HIGH};
        for (int slot : wrong) {
            Check.due("BAD from", x.group(slot, 2), BlockExecutor.BAD);
            Check.due("BAD into", x.group(0, slot), BlockExecutor.BAD);
            Check.due("BAD before ABSENT", x.group(5, slot), BlockExecutor.BAD);
            Check.due("BAD before TAKEN", x.group(slot, 1), BlockExecutor.BAD);
        }
        Check.due("ABSENT", x.group(5, 2), BlockExecutor.ABSENT);
        Check.due("ABSENT before TAKEN", x.group(5, 1), BlockExecutor.ABSENT);
        Check.due("TAKEN", x.group(0, 1), BlockExecutor.TAKEN);
        Check.due("TAKEN by itself", x.group(0, 0), BlockExecutor.TAKEN);
        Check.due("transfers()", x.transfers(), 2);
        Check.dueTable(x, 0, 2, 1, 2, 1);
        Check.dueTable(x, 1, 7, 7);
        Check.due("rows(2)", x.rows(2), -1);
    }
}
