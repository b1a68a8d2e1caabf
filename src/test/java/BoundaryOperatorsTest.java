import java.util.function.ToIntFunction;

/** The sentences of the promises 8 to 13 that name a boundary case: one test for each. */
public final class BoundaryOperatorsTest {
    private static final int LOW = Integer.MIN_VALUE;
    private static final int HIGH = Integer.MAX_VALUE;

    public static void main(String[] args) {
        Check.sentence("8: The operator that sorts the rows of a table in an order (0, 1 or 2; otherwise"
                + " BAD).",
                BoundaryOperatorsTest::sortOrders);
        Check.sentence("8: It costs the sort cost of its rows.",
                BoundaryOperatorsTest::sortCost);
        Check.sentence("9: The operator that takes, in their order, the rows with low <= key <= high.",
                BoundaryOperatorsTest::selectEdges);
        Check.sentence("9: It costs the size of the table and the size of what it makes.",
                BoundaryOperatorsTest::selectCost);
        Check.sentence("10: The operator that makes a list of the different rows (same key and same"
                + " value is the same row), sorted in order 2.",
                BoundaryOperatorsTest::distinctRows);
        Check.sentence("10: It costs the sort cost of the table, its size, and the size of what it"
                + " makes.",
                BoundaryOperatorsTest::distinctCost);
        Check.sentence("11: The operator that makes one row for every different key: that key, and the"
                + " sum of the values of its rows (which wraps as ints do),",
                BoundaryOperatorsTest::groupSumsWrap);
        Check.sentence("11: in the order in which the keys come first in the table.",
                BoundaryOperatorsTest::groupOrder);
        Check.sentence("11: A round reads the rows that are left, at first all; the first 4 (M - 2)"
                + " different keys that it meets, or all if there are no more, get their sums in it,",
                BoundaryOperatorsTest::groupKeysOfARound);
        Check.sentence("11: and the rows with other keys are written, in their order, and are those that"
                + " are left for the next round;",
                BoundaryOperatorsTest::groupRowsLeft);
        Check.sentence("11: the rounds end when none are left.",
                BoundaryOperatorsTest::groupOfNothing);
        Check.sentence("11: It costs for each round the size of the rows that it reads and the size of"
                + " those that it writes, and at last the size of what it makes.",
                BoundaryOperatorsTest::groupCost);
        Check.sentence("12: for kind 0 the greater of n and m times;",
                () -> dueTimes(0, 3, 3, 2, 2, 1));
        Check.sentence("12: for kind 1 the smaller of them;",
                () -> dueTimes(1, 0, 1, 2, 1, 0));
        Check.sentence("12: for kind 2 n - m times, or not at all when that is below 0;",
                () -> dueTimes(2, 3, 2, 0, 0, 0));
        Check.sentence("12: for kind 3 n + m times.",
                () -> dueTimes(3, 3, 4, 4, 3, 1));
        Check.sentence("12: Any other kind is BAD.",
                BoundaryOperatorsTest::combineOtherKinds);
        Check.sentence("12: The result is sorted in order 2.",
                BoundaryOperatorsTest::combineSorted);
        Check.sentence("12: It costs the sort costs of both tables, their sizes, and the size of what it"
                + " makes.",
                BoundaryOperatorsTest::combineCost);
        Check.sentence("13: The operator that joins the rows of a with those of b at level 0.",
                BoundaryOperatorsTest::joinAtLevelZero);
        Check.sentence("13: It costs what the join costs, and the size of what it makes.",
                BoundaryOperatorsTest::joinCost);
        Check.end();
    }

    /** Makes a table in slot 7, looks at its rows and its cost, and drops it. */
    private static void dueMade(BlockExecutor x, String call, ToIntFunction<BlockExecutor> made,
            long cost, int... rows) {
        long before = x.transfers();
        Check.due(call, made.applyAsInt(x), rows.length / 2);
        Check.dueCost(call, x, before, cost);
        Check.dueTable(x, 7, rows);
        Check.due("drop(7)", x.drop(7), rows.length / 2);
    }

    private static void dueCost(BlockExecutor x, String call, ToIntFunction<BlockExecutor> made,
            int rows, long cost) {
        long before = x.transfers();
        Check.due(call, made.applyAsInt(x), rows);
        Check.dueCost(call, x, before, cost);
        Check.due("drop(7)", x.drop(7), rows);
    }

    private static void sortOrders() {
        BlockExecutor x = Check.fill(new BlockExecutor(3), 0, 2, 3, 1, 2, 2, 1, 3, 0, 1, 9);
        dueMade(x, "order 0", e -> e.sort(0, 0, 7), 4, 1, 2, 1, 9, 2, 3, 2, 1, 3, 0);
        dueMade(x, "order 1", e -> e.sort(0, 1, 7), 4, 3, 0, 2, 1, 1, 2, 2, 3, 1, 9);
        dueMade(x, "order 2", e -> e.sort(0, 2, 7), 4, 1, 2, 1, 9, 2, 1, 2, 3, 3, 0);
        long before = x.transfers();
        int[] wrong = {-1, 3, LOW, HIGH};
        for (int order : wrong) {
            Check.due("sort in order " + order, x.sort(0, order, 7), BlockExecutor.BAD);
        }
        Check.dueCost("orders out of range", x, before, 0);
        Check.due("rows(7)", x.rows(7), -1);
        Check.fill(x, 1);
        dueMade(x, "no rows", e -> e.sort(1, 0, 7), 0);
        Check.fill(x, 2, 5, 6);
        dueMade(x, "one row", e -> e.sort(2, 1, 7), 2, 5, 6);
    }

    private static void sortCost() {
        for (int order = 0; order <= 2; order++) {
            int each = order;
            BlockExecutor x = Check.fillCounting(new BlockExecutor(3), 0, 12);
            Check.fillCounting(x, 1, 13);
            Check.fill(x, 2);
            dueCost(x, "3 blocks", e -> e.sort(0, each, 7), 12, 6);
            dueCost(x, "4 blocks", e -> e.sort(1, each, 7), 13, 16);
            dueCost(x, "no blocks", e -> e.sort(2, each, 7), 0, 0);
            dueCost(x, "sorted already", e -> e.sort(0, each, 7), 12, 6);
        }
    }

    private static void selectEdges() {
        int[] rows = {3, 1, HIGH, 2, 5, 3, LOW, 4, 4, 5, 2, 6, 3, 7, 6, 8};
        BlockExecutor x = Check.fill(new BlockExecutor(3), 0, rows);
        dueMade(x, "both ends are in it", e -> e.select(0, 3, 5, 7), 3, 3, 1, 5, 3, 4, 5, 3, 7);
        dueMade(x, "one key", e -> e.select(0, 3, 3, 7), 3, 3, 1, 3, 7);
        dueMade(x, "no such key", e -> e.select(0, 7, 1000, 7), 2);
        dueMade(x, "low above high", e -> e.select(0, 4, 3, 7), 2);
        dueMade(x, "lowest above", e -> e.select(0, HIGH, LOW, 7), 2);
        dueMade(x, "all", e -> e.select(0, LOW, HIGH, 7), 4, rows);
        dueMade(x, "the least int", e -> e.select(0, LOW, LOW, 7), 3, LOW, 4);
        dueMade(x, "the greatest int", e -> e.select(0, HIGH, HIGH, 7), 3, HIGH, 2);
        dueMade(x, "but the least", e -> e.select(0, LOW + 1, HIGH, 7), 4,
                3, 1, HIGH, 2, 5, 3, 4, 5, 2, 6, 3, 7, 6, 8);
        dueMade(x, "but the greatest", e -> e.select(0, LOW, HIGH - 1, 7), 4,
                3, 1, 5, 3, LOW, 4, 4, 5, 2, 6, 3, 7, 6, 8);
        Check.fill(x, 1);
        dueMade(x, "of no rows", e -> e.select(1, LOW, HIGH, 7), 0);
    }

    private static void selectCost() {
        BlockExecutor x = Check.fillCounting(new BlockExecutor(3), 0, 60);
        int[] taken = {0, 1, 4, 5, 56, 57, 60};
        int[] sizes = {0, 1, 1, 2, 14, 15, 15};
        for (int i = 0; i < taken.length; i++) {
            int high = taken[i] - 1;
            dueCost(x, taken[i] + " of 60", e -> e.select(0, 0, high, 7), taken[i], 15 + sizes[i]);
        }
        Check.fill(x, 1);
        dueCost(x, "0 of 0", e -> e.select(1, LOW, HIGH, 7), 0, 0);
    }

    private static void distinctRows() {
        BlockExecutor x = Check.fill(new BlockExecutor(3), 0,
                2, 1, 1, 2, 2, 1, 1, 1, 2, 2, 1, 2, 2, 1, HIGH, LOW, LOW, HIGH, HIGH, LOW);
        dueMade(x, "same key or same value is not enough", e -> e.distinct(0, 7), 6 + 3 + 2,
                LOW, HIGH, 1, 1, 1, 2, 2, 1, 2, 2, HIGH, LOW);
        Check.fillSame(x, 1, 60, -1, -1);
        dueMade(x, "60 same rows", e -> e.distinct(1, 7), 120 + 15 + 1, -1, -1);
        Check.fill(x, 2);
        dueMade(x, "no rows", e -> e.distinct(2, 7), 0);
        Check.fill(x, 3, 0, 0);
        dueMade(x, "one row of zeros", e -> e.distinct(3, 7), 2 + 1 + 1, 0, 0);
        Check.fill(x, 4, 0, 1, 1, 0, 0, 1, 1, 0);
        dueMade(x, "key and value are not mixed up", e -> e.distinct(4, 7), 2 + 1 + 1, 0, 1, 1, 0);
        Check.fill(x, 5, 2, 5, 1, 5, 2, 5, 2, 6);
        dueMade(x, "the same value in turn", e -> e.distinct(5, 7), 2 + 1 + 1, 1, 5, 2, 5, 2, 6);
    }

    private static void distinctCost() {
        BlockExecutor x = Check.fillCounting(new BlockExecutor(4), 0, 60);
        dueCost(x, "60 different rows", e -> e.distinct(0, 7), 60, 90 + 15 + 15);
        Check.fillSame(x, 1, 60, 1, 1);
        dueCost(x, "60 same rows", e -> e.distinct(1, 7), 1, 90 + 15 + 1);
        Check.fillSame(x, 2, 5, 1, 1);
        dueCost(x, "5 same rows", e -> e.distinct(2, 7), 1, 4 + 2 + 1);
        Check.fillCounting(x, 3, 17);
        dueCost(x, "5 blocks", e -> e.distinct(3, 7), 17, 20 + 5 + 5);
        Check.fill(x, 4);
        dueCost(x, "no rows", e -> e.distinct(4, 7), 0, 0);
    }

    private static void groupSumsWrap() {
        BlockExecutor x = Check.fill(new BlockExecutor(3), 0, 1, HIGH, 2, LOW, 1, 1, 2, -1, 3, LOW,
                3, LOW, 4, HIGH, 4, HIGH, 4, 2);
        dueMade(x, "group", e -> e.group(0, 7), 3 + 1, 1, LOW, 2, HIGH, 3, 0, 4, 0);
        Check.fillSame(x, 1, 60, LOW, HIGH);
        dueMade(x, "60 times the greatest int", e -> e.group(1, 7), 15 + 1, LOW, -60);
        Check.fill(x, 2, 5, 6);
        dueMade(x, "one row", e -> e.group(2, 7), 1 + 1, 5, 6);
    }

    private static void groupOrder() {
        BlockExecutor x = Check.fill(new BlockExecutor(3), 0,
                9, 1, -9, 1, 5, 1, -9, 1, 9, 1, 0, 1, 7, 1, 5, 1, HIGH, 1, LOW, 1, 7, 1, 8, 1);
        dueMade(x, "two rounds", e -> e.group(0, 7), (3 + 2) + 2 + 2,
                9, 2, -9, 2, 5, 2, 0, 1, 7, 2, HIGH, 1, LOW, 1, 8, 1);
    }

    /** As many keys as a round takes are one round, and one more key makes it two. */
    private static void groupKeysOfARound() {
        int[] most = {4, 8, 12, 16};
        int[] fewer = {1 + 1, 2 + 2, 3 + 3, 4 + 4};
        int[] same = {1 + 1, 2 + 2, 3 + 3, 4 + 4};
        int[] more = {2 + 1 + 1 + 2, 3 + 1 + 1 + 3, 4 + 1 + 1 + 4, 5 + 1 + 1 + 5};
        int[] twice = {2 + 1 + 1 + 2, 4 + 2 + 2 + 4, 6 + 3 + 3 + 6, 8 + 4 + 4 + 8};
        int[] twiceAndMore = {3 + 2 * 2 + 2 * 1 + 3, 5 + 2 * 3 + 2 * 1 + 5, 7 + 2 * 4 + 2 * 1 + 7,
            9 + 2 * 5 + 2 * 1 + 9};
        for (int frames = 3; frames <= 6; frames++) {
            int i = frames - 3;
            dueGroupCost(frames, most[i] - 1, fewer[i]);
            dueGroupCost(frames, most[i], same[i]);
            dueGroupCost(frames, most[i] + 1, more[i]);
            dueGroupCost(frames, 2 * most[i], twice[i]);
            dueGroupCost(frames, 2 * most[i] + 1, twiceAndMore[i]);
        }
        dueGroupCost(3, 1, 1 + 1);
    }

    private static void dueGroupCost(int frames, int keys, int cost) {
        BlockExecutor x = Check.fillCounting(new BlockExecutor(frames), 0, keys);
        dueCost(x, "group of " + keys + " keys with " + frames + " frames", e -> e.group(0, 7), keys, cost);
    }

    /** Key 5 has to wait; the keys of the round get their sums behind it too. */
    private static void groupRowsLeft() {
        BlockExecutor x = Check.fill(new BlockExecutor(3), 0,
                1, 1, 2, 1, 3, 1, 4, 1, 5, 10, 4, 2, 3, 2, 2, 2, 1, 2, 6, 20, 5, 30, 1, 4);
        dueMade(x, "two rounds", e -> e.group(0, 7), (3 + 1) + 1 + 2,
                1, 7, 2, 3, 3, 3, 4, 3, 5, 40, 6, 20);
        // 5 rows are left behind 4 keys, and 1 row behind 4 more.
        Check.fill(x, 1, 1, 1, 2, 1, 3, 1, 4, 1, 9, 1, 8, 1, 7, 1, 6, 1, 5, 1);
        dueMade(x, "three rounds", e -> e.group(1, 7), (3 + 2) + (2 + 1) + 1 + 3,
                1, 1, 2, 1, 3, 1, 4, 1, 9, 1, 8, 1, 7, 1, 6, 1, 5, 1);
        // The key that is left has more rows than a block.
        Check.fill(x, 2, 1, 1, 2, 1, 3, 1, 4, 1, 5, 1, 5, 2, 5, 3, 5, 4, 5, 5);
        dueMade(x, "a long rest", e -> e.group(2, 7), (3 + 2) + 2 + 2,
                1, 1, 2, 1, 3, 1, 4, 1, 5, 15);
    }

    private static void groupOfNothing() {
        for (int frames = 3; frames <= 6; frames++) {
            BlockExecutor x = Check.fill(new BlockExecutor(frames), 0);
            dueMade(x, "no rows", e -> e.group(0, 7), 0);
            // Nothing is left after the first round: no second one.
            Check.fillSame(x, 1, 60, 4, 1);
            dueMade(x, "one key", e -> e.group(1, 7), 15 + 1, 4, 60);
        }
    }

    private static void groupCost() {
        int[] costs = {
            15 + 2 * (14 + 13 + 12 + 11 + 10 + 9 + 8 + 7 + 6 + 5 + 4 + 3 + 2 + 1) + 15,
            15 + 2 * (13 + 11 + 9 + 7 + 5 + 3 + 1) + 15,
            15 + 2 * (12 + 9 + 6 + 3) + 15,
            15 + 2 * (11 + 7 + 3) + 15,
        };
        for (int frames = 3; frames <= 6; frames++) {
            dueGroupCost(frames, 60, costs[frames - 3]);
        }
        BlockExecutor x = Check.fill(new BlockExecutor(3), 0, 1, 1, 1, 2, 1, 3, 1, 4, 1, 5);
        dueMade(x, "what it makes is smaller", e -> e.group(0, 7), 2 + 1, 1, 15);
    }

    /**
     * Of the keys 1 to 5, a has the row 3, 3, 2, 1 and 0 times and b 0, 1, 2, 2 and 1 times. It tells
     * how often they are due.
     */
    private static void dueTimes(int kind, int... times) {
        BlockExecutor x = Check.fill(new BlockExecutor(3), 0,
                3, 7, 1, 7, 2, 7, 4, 7, 2, 7, 1, 7, 3, 7, 2, 7, 1, 7);
        Check.fill(x, 1, 5, 7, 4, 7, 3, 7, 2, 7, 3, 7, 4, 7);
        int total = 0;
        for (int count : times) {
            total += count;
        }
        String call = "combine(" + kind + ", 0, 1, 7)";
        Check.due(call, x.combine(kind, 0, 1, 7), total);
        int place = 0;
        for (int key = 1; key <= 5; key++) {
            for (int i = 0; i < times[key - 1]; i++) {
                Check.due(call + ", key at " + place, x.key(7, place), key);
                Check.due(call + ", value at " + place, x.value(7, place), 7);
                place++;
            }
        }
        Check.due("rows(7)", x.rows(7), total);
        dueTimesOfSixty(kind);
        dueTimesOfOthers(kind);
    }

    /** 60 times the same row with itself, with a table without rows, and with one row of it. */
    private static void dueTimesOfSixty(int kind) {
        int[] withItself = {60, 60, 0, BlockExecutor.FULL};
        int[] withNone = {60, 0, 60, 60};
        int[] noneWith = {60, 0, 0, 60};
        int[] withOne = {60, 1, 59, BlockExecutor.FULL};
        int[] oneWith = {60, 1, 0, BlockExecutor.FULL};
        BlockExecutor x = Check.fillSame(new BlockExecutor(3), 0, 60, LOW, HIGH);
        Check.fill(x, 1);
        Check.fill(x, 2, LOW, HIGH);
        Check.due("60 with 60, kind " + kind, x.combine(kind, 0, 0, 3), withItself[kind]);
        Check.due("60 with none, kind " + kind, x.combine(kind, 0, 1, 4), withNone[kind]);
        Check.due("none with 60, kind " + kind, x.combine(kind, 1, 0, 5), noneWith[kind]);
        Check.due("60 with 1, kind " + kind, x.combine(kind, 0, 2, 6), withOne[kind]);
        Check.due("1 with 60, kind " + kind, x.combine(kind, 2, 0, 7), oneWith[kind]);
    }

    /** 60 different rows with 60 others, which lie before, between and behind them. */
    private static void dueTimesOfOthers(int kind) {
        int[] due = {BlockExecutor.FULL, 0, 60, BlockExecutor.FULL};
        int[] begins = {-1000, -1, 1, 1000};
        for (int begin : begins) {
            BlockExecutor x = new BlockExecutor(3);
            for (int i = 0; i < 60; i++) {
                Check.due("put", x.put(2 * i, i), true);
            }
            Check.due("store(0)", x.store(0), 60);
            for (int i = 0; i < 60; i++) {
                Check.due("put", x.put(begin + 2 * i, -1), true);
            }
            Check.due("store(1)", x.store(1), 60);
            Check.due("60 with 60 others, kind " + kind, x.combine(kind, 0, 1, 7), due[kind]);
            for (int place = 0; place < due[kind]; place++) {
                Check.due("key at " + place, x.key(7, place), 2 * place);
                Check.due("value at " + place, x.value(7, place), place);
            }
        }
    }

    private static void combineOtherKinds() {
        BlockExecutor x = Check.fill(new BlockExecutor(3), 0, 1, 2);
        int[] others = {-1, 4, 5, LOW, HIGH};
        for (int kind : others) {
            Check.due("combine of kind " + kind, x.combine(kind, 0, 0, 7), BlockExecutor.BAD);
        }
        Check.due("rows(7)", x.rows(7), -1);
        Check.due("transfers()", x.transfers(), 1);
        int[] rows = {1, 1, 0, 2};
        for (int kind = 0; kind <= 3; kind++) {
            Check.due("combine of kind " + kind, x.combine(kind, 0, 0, 1 + kind), rows[kind]);
        }
    }

    private static void combineSorted() {
        BlockExecutor x = Check.fill(new BlockExecutor(3), 0, HIGH, 0, 1, 5, -1, 3, 1, -5);
        Check.fill(x, 1, 1, 0, LOW, 9, -1, 3, HIGH, -1);
        dueMade(x, "kind 0", e -> e.combine(0, 0, 1, 7), 2 + 2 + 1 + 1 + 2,
                LOW, 9, -1, 3, 1, -5, 1, 0, 1, 5, HIGH, -1, HIGH, 0);
        dueMade(x, "kind 1", e -> e.combine(1, 0, 1, 7), 2 + 2 + 1 + 1 + 1, -1, 3);
        dueMade(x, "kind 2", e -> e.combine(2, 0, 1, 7), 2 + 2 + 1 + 1 + 1, 1, -5, 1, 5, HIGH, 0);
        dueMade(x, "kind 3", e -> e.combine(3, 0, 1, 7), 2 + 2 + 1 + 1 + 2,
                LOW, 9, -1, 3, -1, 3, 1, -5, 1, 0, 1, 5, HIGH, -1, HIGH, 0);
        Check.fill(x, 2);
        dueMade(x, "with no rows", e -> e.combine(3, 0, 2, 7), 2 + 1 + 1, -1, 3, 1, -5, 1, 5, HIGH, 0);
        dueMade(x, "no rows with it", e -> e.combine(3, 2, 0, 7), 2 + 1 + 1, -1, 3, 1, -5, 1, 5, HIGH, 0);
    }

    private static void combineCost() {
        BlockExecutor x = Check.fillCounting(new BlockExecutor(3), 0, 60);
        Check.fill(x, 1);
        Check.fillCounting(x, 2, 13);
        dueCost(x, "kind 0", e -> e.combine(0, 0, 2, 7), 60, 120 + 16 + 15 + 4 + 15);
        dueCost(x, "kind 1", e -> e.combine(1, 0, 2, 7), 13, 120 + 16 + 15 + 4 + 4);
        dueCost(x, "kind 2", e -> e.combine(2, 0, 2, 7), 47, 120 + 16 + 15 + 4 + 12);
        dueCost(x, "kind 3", e -> e.combine(3, 2, 2, 7), 26, 16 + 16 + 4 + 4 + 7);
        dueCost(x, "nothing made", e -> e.combine(2, 2, 0, 7), 0, 16 + 120 + 4 + 15);
        dueCost(x, "with no rows", e -> e.combine(1, 2, 1, 7), 0, 16 + 4);
        dueCost(x, "no rows with it", e -> e.combine(2, 1, 2, 7), 0, 16 + 4);
        dueCost(x, "both without rows", e -> e.combine(3, 1, 1, 7), 0, 0);
    }

    private static void joinAtLevelZero() {
        // Digit 0 tells the parts first: 2 and 4 before 1 and 3, whatever their higher digits are.
        BlockExecutor x = Check.fill(new BlockExecutor(3), 0, 1, 1, 2, 2, 3, 3, 4, 4);
        Check.fill(x, 1, 1, 11, 2, 12, 3, 13, 4, 14, 5, 15);
        dueMade(x, "join", e -> e.join(0, 1, 7), (1 + 2) + 2 + 2 + 2 * 2 + 1,
                2, 12, 4, 14, 1, 11, 3, 13);
        // Three times parted before the level is 3.
        Check.fillSame(x, 2, 5, 6, 6);
        Check.fill(x, 3, 9, 6);
        dueMade(x, "join", e -> e.join(3, 2, 7), 3 * 6 + 2 + 2 + 2, 9, 6, 9, 6, 9, 6, 9, 6, 9, 6);
        // a gives the key and b the value; it matters which is which.
        dueMade(x, "the other way", e -> e.join(2, 3, 7), 1 + 2);
    }

    private static void joinCost() {
        BlockExecutor x = Check.fillSame(new BlockExecutor(6), 0, 60, 1, 1);
        Check.fill(x, 1, 1, 1);
        Check.fill(x, 2, 2, 2);
        Check.fill(x, 3);
        dueCost(x, "60 rows made", e -> e.join(0, 1, 7), 60, 1 + 15 + 15);
        dueCost(x, "60 rows made by parts", e -> e.join(1, 0, 7), 60, 3 * 32 + 15 + 4 + 15);
        dueCost(x, "one row made", e -> e.join(1, 1, 7), 1, 1 + 1 + 1);
        dueCost(x, "no rows made", e -> e.join(0, 2, 7), 0, 1 + 15);
        dueCost(x, "no rows in b", e -> e.join(0, 3, 7), 0, 0);
        dueCost(x, "no rows in a", e -> e.join(3, 0, 7), 0, 0);
    }
}
