/** The sentences of "Terms" that name a boundary case of a JOIN: one test for each. */
public final class BoundaryJoinTermsTest {
    private static final int LOW = Integer.MIN_VALUE;
    private static final int HIGH = Integer.MAX_VALUE;

    public static void main(String[] args) {
        Check.sentence("a row of A with key x and value y and a row of B with key y and value z MATCH,"
                + " and give the row with key x and value z.",
                BoundaryJoinTermsTest::match);
        Check.sentence("If A or B is empty, it gives nothing and costs nothing.",
                BoundaryJoinTermsTest::emptyLists);
        Check.sentence("If A or B is empty, it gives nothing and costs nothing. (at the levels 1 to 3)",
                BoundaryJoinTermsTest::emptyParts);
        Check.sentence("If B has at most 4 (M - 2) rows,",
                BoundaryJoinTermsTest::asManyRowsAsInMemory);
        Check.sentence("If B has at most 4 (M - 2) rows, (at the levels 1 and 2)",
                BoundaryJoinTermsTest::partsAsLargeAsMemory);
        Check.sentence("or the level is 3:",
                BoundaryJoinTermsTest::levelThree);
        Check.sentence("B is taken in CHUNKS of 4 (M - 2) rows (the last may have fewer), one after the"
                + " other;",
                BoundaryJoinTermsTest::lastChunk);
        Check.sentence("for each chunk all rows of A are gone through in their order, and for each all"
                + " rows of the chunk in their order;",
                BoundaryJoinTermsTest::orderInChunks);
        Check.sentence("It costs the size of B, and for each chunk the size of A.",
                BoundaryJoinTermsTest::costOfChunks);
        Check.sentence("Otherwise both are PARTITIONED by the digit whose number is the level, of the"
                + " value of rows of A and of the key of rows of B, into F parts 0 .. F - 1 each, which"
                + " keep the order:",
                BoundaryJoinTermsTest::partsKeepTheOrder);
        Check.sentence("it costs the sizes of A and of B (read), and the sizes of all the 2 F parts"
                + " (written);",
                BoundaryJoinTermsTest::costOfParts);
        Check.sentence("then the parts with the same number are joined at the level + 1, one pair after"
                + " the other from 0 on.",
                BoundaryJoinTermsTest::pairsFromZeroOn);
        Check.end();
    }

    private static void dueJoin(int frames, int[] a, int[] b, long cost, int... rows) {
        BlockExecutor x = Check.fill(new BlockExecutor(frames), 0, a);
        Check.fill(x, 1, b);
        long before = x.transfers();
        Check.due("join(0, 1, 2)", x.join(0, 1, 2), rows.length / 2);
        Check.dueCost("join(0, 1, 2) with " + frames + " frames", x, before, cost);
        Check.dueTable(x, 2, rows);
    }

    /** Rows key:0, key:1, ... */
    private static int[] sameKey(int key, int rows) {
        int[] told = new int[2 * rows];
        for (int i = 0; i < rows; i++) {
            told[2 * i] = key;
            told[2 * i + 1] = i;
        }
        return told;
    }

    /** Rows with the given keys and the value 0. */
    private static int[] withKeys(int... keys) {
        int[] told = new int[2 * keys.length];
        for (int i = 0; i < keys.length; i++) {
            told[2 * i] = keys[i];
        }
        return told;
    }

    private static void match() {
        dueJoin(3, new int[] {1, 5}, new int[] {5, 9}, 3, 1, 9);
        dueJoin(3, new int[] {5, 1}, new int[] {5, 9}, 2);
        dueJoin(3, new int[] {1, 5}, new int[] {9, 5}, 2);
        dueJoin(3, new int[] {1, 5}, new int[] {4, 9, 6, 9, -5, 9}, 2);
        dueJoin(3, new int[] {LOW, HIGH, HIGH, LOW}, new int[] {LOW, LOW, HIGH, HIGH}, 3,
                LOW, HIGH, HIGH, LOW);
        dueJoin(3, new int[] {1, 0, 1, 0}, new int[] {0, 2, 0, 2}, 3, 1, 2, 1, 2, 1, 2, 1, 2);
    }

    private static void emptyLists() {
        int[] none = {};
        int[] one = {1, 1};
        int[] sixty = sameKey(0, 60);
        for (int frames = 3; frames <= 6; frames++) {
            dueJoin(frames, none, none, 0);
            dueJoin(frames, none, one, 0);
            dueJoin(frames, one, none, 0);
            dueJoin(frames, none, sixty, 0);
            dueJoin(frames, sixty, none, 0);
        }
    }

    /**
     * B has one row more than goes into memory, all with key 0, and takes M - 1 blocks; each time that
     * it is partitioned with a row of A costs 2 M. The row of A leaves it at the level 0, 1 or 2.
     */
    private static void emptyParts() {
        for (int frames = 3; frames <= 6; frames++) {
            int[] b = sameKey(0, 4 * (frames - 2) + 1);
            int f = frames - 1;
            dueJoin(frames, new int[] {1, 1}, b, 2L * frames);
            dueJoin(frames, new int[] {1, f}, b, 4L * frames);
            dueJoin(frames, new int[] {1, f * f}, b, 6L * frames);
            dueJoin(frames, new int[] {1, f * f * f}, b, 6L * frames + (frames - 1) + 2);
        }
    }

    private static void asManyRowsAsInMemory() {
        int[] atOnce = {2, 3, 4, 5};
        int[] inParts = {6 + 2, 8 + 2, 10 + 2, 12 + 2};
        for (int frames = 3; frames <= 6; frames++) {
            int most = 4 * (frames - 2);
            int[] a = {7, 0};
            dueJoin(frames, a, counting(most - 1), atOnce[frames - 3] + 1, 7, 0);
            dueJoin(frames, a, counting(most), atOnce[frames - 3] + 1, 7, 0);
            dueJoin(frames, a, counting(most + 1), inParts[frames - 3] + 1, 7, 0);
        }
        // Only the rows of B count: A may have more than go into memory.
        dueJoin(3, sameKey(7, 60), new int[] {59, 1, 60, 2, 61, 3, 62, 4}, 1 + 15 + 1, 7, 1);
    }

    private static int[] counting(int rows) {
        int[] told = new int[2 * rows];
        for (int i = 0; i < rows; i++) {
            told[2 * i] = i;
            told[2 * i + 1] = i;
        }
        return told;
    }

    private static void partsAsLargeAsMemory() {
        int[] a = {7, 0};
        dueJoin(3, a, withKeys(0, 2, 4, 6, 1), 6 + 2 + 1, 7, 0);
        dueJoin(3, a, withKeys(0, 2, 4, 6, 8), 6 + 6 + 2 + 1, 7, 0);
        dueJoin(3, a, withKeys(0, 4, 8, 12, 2), 6 + 6 + 2 + 1, 7, 0);
        dueJoin(3, a, withKeys(0, 4, 8, 12, 16), 6 + 6 + 6 + 2 + 1, 7, 0);
        dueJoin(4, a, withKeys(0, 3, 6, 9, 12, 15, 18, 21, 1), 8 + 3 + 1, 7, 0);
        dueJoin(4, a, withKeys(0, 3, 6, 9, 12, 15, 18, 21, 24), 8 + 8 + 2 + 1, 7, 0);
    }

    /** Rows of one key are never parted, however many they are: at level 3 they come in chunks. */
    private static void levelThree() {
        for (int frames = 3; frames <= 6; frames++) {
            int[] b = sameKey(-5, 4 * (frames - 2) + 1);
            int size = frames - 1;
            dueJoin(frames, new int[] {7, -5}, b, 3 * 2 * (1 + size) + size + 2 + size,
                    joinedWith(b, 7));
        }
        // At level 3 also B with as many rows as go into memory, or fewer, is read at once.
        dueJoin(3, new int[] {7, 0}, withKeys(0, 8, 16, 24, 4), 6 + 6 + 6 + 2 + 1, 7, 0);
    }

    private static int[] joinedWith(int[] b, int key) {
        int[] told = b.clone();
        for (int i = 0; i < told.length; i += 2) {
            told[i] = key;
        }
        return told;
    }

    private static void lastChunk() {
        int[][] rows = {{5, 7, 8, 9, 60}, {9, 15, 16, 17, 60}, {13, 23, 24, 25, 60}, {17, 31, 32, 33, 60}};
        int[][] sizes = {{2, 2, 2, 3, 15}, {3, 4, 4, 5, 15}, {4, 6, 6, 7, 15}, {5, 8, 8, 9, 15}};
        int[][] chunks = {{2, 2, 2, 3, 15}, {2, 2, 2, 3, 8}, {2, 2, 2, 3, 5}, {2, 2, 2, 3, 4}};
        for (int frames = 3; frames <= 6; frames++) {
            for (int i = 0; i < 5; i++) {
                int[] b = sameKey(5, rows[frames - 3][i]);
                int size = sizes[frames - 3][i];
                int cost = 6 * (1 + size) + size + chunks[frames - 3][i] + size;
                dueJoin(frames, new int[] {7, 5}, b, cost, joinedWith(b, 7));
            }
        }
    }

    private static void orderInChunks() {
        int[] a = {2, 5, 1, 5};
        dueJoin(3, a, new int[] {5, 9, 5, 8, 5, 7, 5, 6, 5, 5, 5, 4}, 3 * 6 + 2 + 2 + 3,
                2, 9, 2, 8, 2, 7, 2, 6, 1, 9, 1, 8, 1, 7, 1, 6, 2, 5, 2, 4, 1, 5, 1, 4);
        // In one chunk, the rows of A come before those of B.
        dueJoin(3, a, new int[] {5, 9, 4, 0, 5, 8}, 1 + 1 + 1, 2, 9, 2, 8, 1, 9, 1, 8);
        dueJoin(4, a, new int[] {5, 9, 5, 8, 5, 7, 5, 6, 5, 5, 5, 4}, 2 + 1 + 3,
                2, 9, 2, 8, 2, 7, 2, 6, 2, 5, 2, 4, 1, 9, 1, 8, 1, 7, 1, 6, 1, 5, 1, 4);
    }

    /** 5 rows of A, of which one matches, and all others only have the same digits. */
    private static void costOfChunks() {
        int[] a = {1, 13, 2, 21, 3, 5, 4, 29, 5, 37};
        dueJoin(3, a, sameKey(5, 1), 1 + 2 + 1, 3, 0);
        dueJoin(3, a, sameKey(5, 4), 1 + 2 + 1, 3, 0, 3, 1, 3, 2, 3, 3);
        dueJoin(3, a, sameKey(5, 8), 6 * (2 + 2) + 2 + 2 * 2 + 2, joinedWith(sameKey(5, 8), 3));
        dueJoin(3, a, sameKey(5, 9), 6 * (2 + 3) + 3 + 3 * 2 + 3, joinedWith(sameKey(5, 9), 3));
        dueJoin(6, a, sameKey(5, 16), 4 + 2 + 4, joinedWith(sameKey(5, 16), 3));
    }

    private static void partsKeepTheOrder() {
        dueJoin(3, new int[] {4, 0, 9, 1, 3, 2, 8, 1, 2, 0}, new int[] {1, 6, 0, 5, 2, 4, 0, 3, 1, 2},
                (2 + 2) + (1 + 1) + (1 + 1) + (1 + 1) + (1 + 1) + 3,
                4, 5, 4, 3, 3, 4, 2, 5, 2, 3, 9, 6, 9, 2, 8, 6, 8, 2);
        // The key of a row of A and the value of a row of B have no say in it.
        dueJoin(3, new int[] {1, 0, 0, 0}, new int[] {0, 1, 0, 0, 2, 1, 4, 0, 3, 0},
                (1 + 2) + (1 + 0) + (1 + 1) + (1 + 1) + 1,
                1, 1, 1, 0, 0, 1, 0, 0);
    }

    private static void costOfParts() {
        // Each part is rounded up by itself: 5 rows are 1 and 4, each a block.
        dueJoin(3, new int[] {9, 0, 1, 1, 2, 1, 3, 1, 4, 1}, withKeys(0, 2, 4, 6, 1),
                (2 + 2) + (1 + 1) + (1 + 1) + (1 + 1) + (1 + 1) + 2,
                9, 0, 1, 0, 2, 0, 3, 0, 4, 0);
        // 2 and 3 rows are two blocks too; 6 and 6 rows are four, one more than 12 rows.
        dueJoin(3, new int[] {7, 0}, withKeys(0, 2, 2, 1, 1), (1 + 2) + 1 + (1 + 1) + 2 + 1, 7, 0);
        dueJoin(5, new int[] {7, 1}, withKeys(0, 0, 0, 0, 0, 0, 1, 1, 1, 1, 1, 1, 1),
                (1 + 4) + 1 + (2 + 2) + (2 + 1) + 2, 7, 0, 7, 0, 7, 0, 7, 0, 7, 0, 7, 0, 7, 0);
        // A part is paid for though there is none to join it with; one without rows costs nothing.
        dueJoin(3, new int[] {7, 0}, withKeys(0, 2, 4, 1, 3), (1 + 2) + (1 + 0) + (1 + 1) + 2 + 1, 7, 0);
        dueJoin(6, new int[] {7, 4, 7, 3}, sameKey(2, 17), (1 + 5) + (1 + 1) + 5);
        // A pair that is parted again costs what its own rows do, not those before it.
        dueJoin(3, new int[] {9, 0, 8, 0, 7, 0, 6, 0, 1, 1}, withKeys(0, 1, 3, 2, 5, 4, 7, 9),
                (2 + 2) + (1 + 1) + (1 + 2) + 2 + (1 + 2) + (1 + 1 + 1) + 2 + 2,
                9, 0, 8, 0, 7, 0, 6, 0, 1, 0);
    }

    private static void pairsFromZeroOn() {
        dueJoin(3, new int[] {11, 1, 10, 0}, counting(5),
                (1 + 2) + 2 + 2 + 2 * 2 + 1, 10, 0, 11, 1);
        dueJoin(4, new int[] {12, 2, 11, 1, 10, 0}, counting(9),
                (1 + 3) + 3 + 3 + 3 * 2 + 1, 10, 0, 11, 1, 12, 2);
        dueJoin(5, new int[] {13, 3, 12, 2, 11, 1, 10, 0}, counting(13),
                (1 + 4) + 4 + 4 + 4 * 2 + 1, 10, 0, 11, 1, 12, 2, 13, 3);
        dueJoin(6, new int[] {14, 4, 13, 3, 12, 2, 11, 1, 10, 0}, counting(17),
                (2 + 5) + 5 + 5 + 5 * 2 + 2, 10, 0, 11, 1, 12, 2, 13, 3, 14, 4);
        // A pair is joined to its end, at the higher levels too, before the next one is begun.
        dueJoin(3, new int[] {1, 1, 2, 6, 3, 2, 4, 4, 5, 0}, withKeys(0, 2, 4, 6, 8, 1),
                (2 + 2) + (1 + 1) + (2 + 1)
                        + (1 + 2) + (1 + 1) + (1 + 1) + 2 + 2
                        + 2 + 2,
                4, 0, 5, 0, 2, 0, 3, 0, 1, 0);
    }
}
