import java.util.function.ToIntFunction;

/**
 * The sentences of "Terms" that name a boundary case of operators and of refusals: one test for
 * each.
 */
public final class BoundaryRefusalsTest {
    private static final int LOW = Integer.MIN_VALUE;
    private static final int HIGH = Integer.MAX_VALUE;
    private static final int[] WRONG_SLOTS = {-1, 8, LOW, HIGH};

    public static void main(String[] args) {
        Check.sentence("An OPERATOR makes a table in the slot INTO from one or two others (which may be"
                + " the same one),",
                BoundaryRefusalsTest::fromTheSameTable);
        Check.sentence("and answers how many rows it has; the others stay as they are.",
                BoundaryRefusalsTest::othersStay);
        Check.sentence("BAD, a slot that is named is not 0 .. 7",
                BoundaryRefusalsTest::badSlots);
        Check.sentence("or another argument is out of its range;",
                BoundaryRefusalsTest::badArguments);
        Check.sentence("ABSENT, a slot from which is taken holds no table;",
                BoundaryRefusalsTest::absent);
        Check.sentence("TAKEN, the slot into holds a table;",
                BoundaryRefusalsTest::taken);
        Check.sentence("FULL, the table would have more than 60 rows.",
                BoundaryRefusalsTest::full);
        Check.sentence("Refusals are tested in this order: (BAD before all others)",
                BoundaryRefusalsTest::badBeforeOthers);
        Check.sentence("Refusals are tested in this order: (ABSENT before TAKEN and FULL)",
                BoundaryRefusalsTest::absentBeforeOthers);
        Check.sentence("Refusals are tested in this order: (TAKEN before FULL)",
                BoundaryRefusalsTest::takenBeforeFull);
        Check.sentence("A refused call changes nothing, not even the transfers.",
                BoundaryRefusalsTest::changesNothing);
        Check.end();
    }

    /**
     * Slots 0 and 1 hold a few rows, 2 holds 60, 3 a table without rows, 4 to 7 nothing; the input has
     * two rows. Slot 7 held a table once.
     */
    private static BlockExecutor standing() {
        BlockExecutor x = Check.fill(new BlockExecutor(3), 0, 2, 1, 1, 2, 2, 1);
        Check.fill(x, 1, 7, 7);
        Check.fillSame(x, 2, 60, 1, 1);
        Check.fill(x, 3);
        Check.fill(x, 7, 5, 6);
        Check.due("drop(7)", x.drop(7), 1);
        Check.due("put", x.put(8, 9), true);
        Check.due("put", x.put(-8, -9), true);
        return x;
    }

    private static void answers(String call, int due, ToIntFunction<BlockExecutor> made) {
        Check.due(call, made.applyAsInt(standing()), due);
    }

    private static void fromTheSameTable() {
        BlockExecutor x = Check.fill(new BlockExecutor(3), 0, 2, 1, 1, 2, 2, 1, 3, 3, 1, 1);
        int sortsAndReads = 4 + 4 + 2 + 2;
        dueMade("combine(0, 0, 0, 1)", x, e -> e.combine(0, 0, 0, 1), sortsAndReads + 2,
                1, 1, 1, 2, 2, 1, 2, 1, 3, 3);
        dueMade("combine(1, 0, 0, 1)", x, e -> e.combine(1, 0, 0, 1), sortsAndReads + 2,
                1, 1, 1, 2, 2, 1, 2, 1, 3, 3);
        dueMade("combine(2, 0, 0, 1)", x, e -> e.combine(2, 0, 0, 1), sortsAndReads);
        dueMade("combine(3, 0, 0, 1)", x, e -> e.combine(3, 0, 0, 1), sortsAndReads + 3,
                1, 1, 1, 1, 1, 2, 1, 2, 2, 1, 2, 1, 2, 1, 2, 1, 3, 3, 3, 3);
        dueMade("join(0, 0, 1)", x, e -> e.join(0, 0, 1), (2 + 2) + (1 + 1) + (1 + 1) + 2 + 2 + 3,
                1, 1, 1, 1, 2, 2, 2, 1, 2, 2, 2, 1, 3, 3, 1, 2, 1, 1);
        Check.dueTable(x, 0, 2, 1, 1, 2, 2, 1, 3, 3, 1, 1);
    }

    private static void dueMade(String call, BlockExecutor x, ToIntFunction<BlockExecutor> made,
            long cost, int... rows) {
        long before = x.transfers();
        Check.due(call, made.applyAsInt(x), rows.length / 2);
        Check.dueCost(call, x, before, cost);
        Check.dueTable(x, 1, rows);
        Check.due("drop(1)", x.drop(1), rows.length / 2);
    }

    private static void othersStay() {
        staysAsItIs("sort in order 0", e -> e.sort(0, 0, 2));
        staysAsItIs("sort in order 1", e -> e.sort(0, 1, 2));
        staysAsItIs("sort in order 2", e -> e.sort(0, 2, 2));
        staysAsItIs("select", e -> e.select(0, 2, 3, 2));
        staysAsItIs("distinct", e -> e.distinct(0, 2));
        staysAsItIs("group", e -> e.group(0, 2));
        for (int kind = 0; kind <= 3; kind++) {
            int each = kind;
            staysAsItIs("combine of kind " + kind, e -> e.combine(each, 0, 1, 2));
        }
        staysAsItIs("join", e -> e.join(0, 1, 2));
        staysAsItIs("join the other way", e -> e.join(1, 0, 2));
        staysAsItIs("join with itself", e -> e.join(0, 0, 2));
    }

    /** Neither does making or dropping change the others, nor does what becomes of them change it. */
    private static void staysAsItIs(String call, ToIntFunction<BlockExecutor> made) {
        int[] a = {3, 1, 2, 3, 3, 1, 2, 2, 1, 1, 0, 2};
        int[] b = {3, 1, 1, 2, 3, 4, 2, 2, 1, 1};
        BlockExecutor x = Check.fill(new BlockExecutor(3), 0, a);
        Check.fill(x, 1, b);
        int rows = made.applyAsInt(x);
        Check.due(call + ", rows(2)", x.rows(2), rows);
        Check.dueTable(x, 0, a);
        Check.dueTable(x, 1, b);
        String before = tableIn(x, 2, rows);
        Check.due("drop(0)", x.drop(0), 6);
        Check.due("drop(1)", x.drop(1), 5);
        Check.fillSame(x, 0, 9, 77, 77);
        Check.fillSame(x, 1, 9, 88, 88);
        Check.due(call + ", what it made", tableIn(x, 2, rows), before);
        Check.due("drop(2)", x.drop(2), rows);
        Check.due("rows(0)", x.rows(0), 9);
        Check.due("rows(1)", x.rows(1), 9);
    }

    private static String tableIn(BlockExecutor x, int slot, int rows) {
        StringBuilder seen = new StringBuilder();
        for (int place = 0; place < rows; place++) {
            seen.append(' ').append(x.key(slot, place)).append(':').append(x.value(slot, place));
        }
        return seen.toString();
    }

    private static void badSlots() {
        for (int slot : WRONG_SLOTS) {
            answers("sort from " + slot, BlockExecutor.BAD, e -> e.sort(slot, 0, 7));
            answers("sort into " + slot, BlockExecutor.BAD, e -> e.sort(0, 0, slot));
            answers("select from " + slot, BlockExecutor.BAD, e -> e.select(slot, 0, 9, 7));
            answers("select into " + slot, BlockExecutor.BAD, e -> e.select(0, 0, 9, slot));
            answers("distinct from " + slot, BlockExecutor.BAD, e -> e.distinct(slot, 7));
            answers("distinct into " + slot, BlockExecutor.BAD, e -> e.distinct(0, slot));
            answers("group from " + slot, BlockExecutor.BAD, e -> e.group(slot, 7));
            answers("group into " + slot, BlockExecutor.BAD, e -> e.group(0, slot));
            answers("combine of a " + slot, BlockExecutor.BAD, e -> e.combine(0, slot, 1, 7));
            answers("combine of b " + slot, BlockExecutor.BAD, e -> e.combine(0, 0, slot, 7));
            answers("combine into " + slot, BlockExecutor.BAD, e -> e.combine(0, 0, 1, slot));
            answers("join of a " + slot, BlockExecutor.BAD, e -> e.join(slot, 1, 7));
            answers("join of b " + slot, BlockExecutor.BAD, e -> e.join(0, slot, 7));
            answers("join into " + slot, BlockExecutor.BAD, e -> e.join(0, 1, slot));
            answers("store into " + slot, BlockExecutor.BAD, e -> e.store(slot));
            answers("drop of " + slot, BlockExecutor.BAD, e -> e.drop(slot));
        }
    }

    private static void badArguments() {
        int[] orders = {-1, 3, 4, LOW, HIGH};
        for (int order : orders) {
            answers("sort in order " + order, BlockExecutor.BAD, e -> e.sort(0, order, 7));
        }
        int[] kinds = {-1, 4, 5, LOW, HIGH};
        for (int kind : kinds) {
            answers("combine of kind " + kind, BlockExecutor.BAD, e -> e.combine(kind, 0, 1, 7));
        }
        for (int order = 0; order <= 2; order++) {
            int each = order;
            answers("sort in order " + order, 3, e -> e.sort(0, each, 7));
        }
        int[] rows = {4, 0, 3, 4};
        for (int kind = 0; kind <= 3; kind++) {
            int each = kind;
            answers("combine of kind " + kind, rows[kind], e -> e.combine(each, 0, 1, 7));
        }
        // select has no range for low and high.
        answers("select of any keys", 3, e -> e.select(0, LOW, HIGH, 7));
        answers("select of no keys", 0, e -> e.select(0, HIGH, LOW, 7));
    }

    /** Slot 4 never held a table; slot 7 did. Slot 3 holds one without rows. */
    private static void absent() {
        int[] empty = {4, 7};
        for (int slot : empty) {
            answers("sort from " + slot, BlockExecutor.ABSENT, e -> e.sort(slot, 0, 6));
            answers("select from " + slot, BlockExecutor.ABSENT, e -> e.select(slot, 0, 9, 6));
            answers("distinct from " + slot, BlockExecutor.ABSENT, e -> e.distinct(slot, 6));
            answers("group from " + slot, BlockExecutor.ABSENT, e -> e.group(slot, 6));
            answers("combine of a " + slot, BlockExecutor.ABSENT, e -> e.combine(3, slot, 1, 6));
            answers("combine of b " + slot, BlockExecutor.ABSENT, e -> e.combine(3, 0, slot, 6));
            answers("combine of both " + slot, BlockExecutor.ABSENT, e -> e.combine(3, slot, slot, 6));
            answers("join of a " + slot, BlockExecutor.ABSENT, e -> e.join(slot, 1, 6));
            answers("join of b " + slot, BlockExecutor.ABSENT, e -> e.join(0, slot, 6));
            answers("join of both " + slot, BlockExecutor.ABSENT, e -> e.join(slot, slot, 6));
            answers("drop of " + slot, BlockExecutor.ABSENT, e -> e.drop(slot));
        }
        answers("sort from no rows", 0, e -> e.sort(3, 0, 6));
        answers("select from no rows", 0, e -> e.select(3, 0, 9, 6));
        answers("distinct from no rows", 0, e -> e.distinct(3, 6));
        answers("group from no rows", 0, e -> e.group(3, 6));
        answers("combine of no rows", 3, e -> e.combine(3, 3, 0, 6));
        answers("combine of no rows", 3, e -> e.combine(3, 0, 3, 6));
        answers("join of no rows", 0, e -> e.join(3, 0, 6));
        answers("join of no rows", 0, e -> e.join(0, 3, 6));
    }

    /** Into the table itself, into another one, and into one without rows; slot 7 is free again. */
    private static void taken() {
        int[] held = {0, 1, 3};
        for (int slot : held) {
            answers("store into " + slot, BlockExecutor.TAKEN, e -> e.store(slot));
            answers("sort into " + slot, BlockExecutor.TAKEN, e -> e.sort(0, 0, slot));
            answers("select into " + slot, BlockExecutor.TAKEN, e -> e.select(0, 0, 9, slot));
            answers("distinct into " + slot, BlockExecutor.TAKEN, e -> e.distinct(0, slot));
            answers("group into " + slot, BlockExecutor.TAKEN, e -> e.group(0, slot));
            answers("combine into " + slot, BlockExecutor.TAKEN, e -> e.combine(3, 0, 1, slot));
            answers("join into " + slot, BlockExecutor.TAKEN, e -> e.join(0, 1, slot));
        }
        answers("store into a free slot", 2, e -> e.store(7));
        answers("sort into a free slot", 3, e -> e.sort(0, 0, 7));
        answers("select into a free slot", 3, e -> e.select(0, 0, 9, 7));
        answers("distinct into a free slot", 2, e -> e.distinct(0, 7));
        answers("group into a free slot", 2, e -> e.group(0, 7));
        answers("combine into a free slot", 4, e -> e.combine(3, 0, 1, 7));
        answers("join into a free slot", 4, e -> e.join(0, 0, 7));
    }

    private static void full() {
        answers("combine to 61 rows", BlockExecutor.FULL, e -> e.combine(0, 2, 1, 7));
        answers("combine to 61 rows", BlockExecutor.FULL, e -> e.combine(3, 1, 2, 7));
        answers("combine to 120 rows", BlockExecutor.FULL, e -> e.combine(3, 2, 2, 7));
        answers("combine to 60 rows", 60, e -> e.combine(0, 2, 2, 7));
        answers("combine to 60 rows", 60, e -> e.combine(1, 2, 2, 7));
        answers("combine to 60 rows", 60, e -> e.combine(2, 2, 1, 7));
        answers("combine to 60 rows", 60, e -> e.combine(3, 2, 3, 7));
        answers("join to 120 rows", BlockExecutor.FULL, e -> e.join(0, 2, 7));
        answers("join to 3600 rows", BlockExecutor.FULL, e -> e.join(2, 2, 7));
        answers("join to 60 rows", 60, e -> e.join(2, 0, 7));
        dueJoinRows(60, 30, 0);
        dueJoinRows(BlockExecutor.FULL, 30, 1);
        dueJoinRows(59, 29, 1);
    }

    /** So many rows that match two rows each, and so many that match one. */
    private static void dueJoinRows(int due, int withTwo, int withOne) {
        for (int frames = 3; frames <= 6; frames++) {
            BlockExecutor x = new BlockExecutor(frames);
            for (int i = 0; i < withTwo + withOne; i++) {
                Check.due("put", x.put(i, i < withTwo ? 1 : 9), true);
            }
            Check.due("store(0)", x.store(0), withTwo + withOne);
            Check.fill(x, 1, 1, 5, 9, 6, 1, 7);
            Check.due("join(0, 1, 2)", x.join(0, 1, 2), due);
            Check.due("rows(2)", x.rows(2), due == BlockExecutor.FULL ? -1 : due);
        }
    }

    private static void badBeforeOthers() {
        for (int slot : WRONG_SLOTS) {
            answers("sort, ABSENT too", BlockExecutor.BAD, e -> e.sort(4, 0, slot));
            answers("sort, TAKEN too", BlockExecutor.BAD, e -> e.sort(slot, 0, 1));
            answers("select, ABSENT too", BlockExecutor.BAD, e -> e.select(4, 0, 9, slot));
            answers("select, TAKEN too", BlockExecutor.BAD, e -> e.select(slot, 0, 9, 1));
            answers("distinct, ABSENT too", BlockExecutor.BAD, e -> e.distinct(4, slot));
            answers("distinct, TAKEN too", BlockExecutor.BAD, e -> e.distinct(slot, 1));
            answers("group, ABSENT too", BlockExecutor.BAD, e -> e.group(4, slot));
            answers("group, TAKEN too", BlockExecutor.BAD, e -> e.group(slot, 1));
            answers("combine, ABSENT too", BlockExecutor.BAD, e -> e.combine(3, 4, slot, 7));
            answers("combine, ABSENT too", BlockExecutor.BAD, e -> e.combine(3, slot, 4, 7));
            answers("combine, ABSENT too", BlockExecutor.BAD, e -> e.combine(3, 4, 5, slot));
            answers("combine, TAKEN too", BlockExecutor.BAD, e -> e.combine(3, slot, 0, 1));
            answers("combine, FULL too", BlockExecutor.BAD, e -> e.combine(3, 2, 2, slot));
            answers("join, ABSENT too", BlockExecutor.BAD, e -> e.join(4, slot, 7));
            answers("join, ABSENT too", BlockExecutor.BAD, e -> e.join(slot, 4, 7));
            answers("join, ABSENT too", BlockExecutor.BAD, e -> e.join(4, 5, slot));
            answers("join, TAKEN too", BlockExecutor.BAD, e -> e.join(0, slot, 1));
            answers("join, FULL too", BlockExecutor.BAD, e -> e.join(2, 2, slot));
        }
        answers("sort, ABSENT too", BlockExecutor.BAD, e -> e.sort(4, 3, 7));
        answers("sort, TAKEN too", BlockExecutor.BAD, e -> e.sort(0, -1, 1));
        answers("sort, ABSENT and TAKEN too", BlockExecutor.BAD, e -> e.sort(4, 3, 1));
        answers("combine, ABSENT too", BlockExecutor.BAD, e -> e.combine(4, 4, 1, 7));
        answers("combine, ABSENT too", BlockExecutor.BAD, e -> e.combine(4, 0, 4, 7));
        answers("combine, TAKEN too", BlockExecutor.BAD, e -> e.combine(-1, 0, 1, 1));
        answers("combine, FULL too", BlockExecutor.BAD, e -> e.combine(4, 2, 2, 7));
        answers("combine, all too", BlockExecutor.BAD, e -> e.combine(4, 2, 4, 1));
    }

    private static void absentBeforeOthers() {
        answers("sort, TAKEN too", BlockExecutor.ABSENT, e -> e.sort(4, 0, 1));
        answers("select, TAKEN too", BlockExecutor.ABSENT, e -> e.select(4, 0, 9, 1));
        answers("distinct, TAKEN too", BlockExecutor.ABSENT, e -> e.distinct(4, 1));
        answers("group, TAKEN too", BlockExecutor.ABSENT, e -> e.group(4, 1));
        answers("combine, TAKEN too", BlockExecutor.ABSENT, e -> e.combine(3, 4, 0, 0));
        answers("combine, TAKEN too", BlockExecutor.ABSENT, e -> e.combine(3, 0, 4, 0));
        answers("combine, TAKEN and FULL too", BlockExecutor.ABSENT, e -> e.combine(3, 2, 4, 1));
        answers("combine, FULL too", BlockExecutor.ABSENT, e -> e.combine(3, 2, 4, 7));
        answers("join, TAKEN too", BlockExecutor.ABSENT, e -> e.join(4, 0, 0));
        answers("join, TAKEN too", BlockExecutor.ABSENT, e -> e.join(0, 4, 0));
        answers("join of nothing into itself", BlockExecutor.ABSENT, e -> e.join(4, 4, 4));
        answers("sort of nothing into itself", BlockExecutor.ABSENT, e -> e.sort(4, 0, 4));
    }

    private static void takenBeforeFull() {
        answers("combine into another", BlockExecutor.TAKEN, e -> e.combine(3, 2, 1, 0));
        answers("combine into itself", BlockExecutor.TAKEN, e -> e.combine(3, 2, 2, 2));
        answers("combine into no rows", BlockExecutor.TAKEN, e -> e.combine(0, 2, 1, 3));
        answers("join into another", BlockExecutor.TAKEN, e -> e.join(2, 2, 0));
        answers("join into itself", BlockExecutor.TAKEN, e -> e.join(2, 2, 2));
        answers("join into no rows", BlockExecutor.TAKEN, e -> e.join(0, 2, 3));
    }

    private static void changesNothing() {
        unchanged("store(-1)", BlockExecutor.BAD, e -> e.store(-1));
        unchanged("store(8)", BlockExecutor.BAD, e -> e.store(8));
        unchanged("store(0)", BlockExecutor.TAKEN, e -> e.store(0));
        unchanged("store(3)", BlockExecutor.TAKEN, e -> e.store(3));
        unchanged("drop(-1)", BlockExecutor.BAD, e -> e.drop(-1));
        unchanged("drop(8)", BlockExecutor.BAD, e -> e.drop(8));
        unchanged("drop(7)", BlockExecutor.ABSENT, e -> e.drop(7));
        unchanged("sort(0, 3, 7)", BlockExecutor.BAD, e -> e.sort(0, 3, 7));
        unchanged("sort(0, 0, 8)", BlockExecutor.BAD, e -> e.sort(0, 0, 8));
        unchanged("sort(7, 0, 6)", BlockExecutor.ABSENT, e -> e.sort(7, 0, 6));
        unchanged("sort(0, 0, 1)", BlockExecutor.TAKEN, e -> e.sort(0, 0, 1));
        unchanged("sort(0, 0, 0)", BlockExecutor.TAKEN, e -> e.sort(0, 0, 0));
        unchanged("select(0, 0, 9, 8)", BlockExecutor.BAD, e -> e.select(0, 0, 9, 8));
        unchanged("select(7, 0, 9, 6)", BlockExecutor.ABSENT, e -> e.select(7, 0, 9, 6));
        unchanged("select(0, 0, 9, 1)", BlockExecutor.TAKEN, e -> e.select(0, 0, 9, 1));
        unchanged("distinct(0, 8)", BlockExecutor.BAD, e -> e.distinct(0, 8));
        unchanged("distinct(7, 6)", BlockExecutor.ABSENT, e -> e.distinct(7, 6));
        unchanged("distinct(0, 1)", BlockExecutor.TAKEN, e -> e.distinct(0, 1));
        unchanged("group(0, 8)", BlockExecutor.BAD, e -> e.group(0, 8));
        unchanged("group(7, 6)", BlockExecutor.ABSENT, e -> e.group(7, 6));
        unchanged("group(0, 1)", BlockExecutor.TAKEN, e -> e.group(0, 1));
        unchanged("combine(4, 0, 1, 7)", BlockExecutor.BAD, e -> e.combine(4, 0, 1, 7));
        unchanged("combine(3, 0, 8, 7)", BlockExecutor.BAD, e -> e.combine(3, 0, 8, 7));
        unchanged("combine(3, 0, 7, 6)", BlockExecutor.ABSENT, e -> e.combine(3, 0, 7, 6));
        unchanged("combine(3, 0, 1, 1)", BlockExecutor.TAKEN, e -> e.combine(3, 0, 1, 1));
        unchanged("combine(3, 2, 2, 7)", BlockExecutor.FULL, e -> e.combine(3, 2, 2, 7));
        unchanged("combine(0, 2, 1, 7)", BlockExecutor.FULL, e -> e.combine(0, 2, 1, 7));
        unchanged("join(0, 1, 8)", BlockExecutor.BAD, e -> e.join(0, 1, 8));
        unchanged("join(7, 0, 6)", BlockExecutor.ABSENT, e -> e.join(7, 0, 6));
        unchanged("join(0, 1, 1)", BlockExecutor.TAKEN, e -> e.join(0, 1, 1));
        unchanged("join(0, 2, 7)", BlockExecutor.FULL, e -> e.join(0, 2, 7));
        unchanged("join(2, 2, 7)", BlockExecutor.FULL, e -> e.join(2, 2, 7));
        slotIsFreeAfterFull();
    }

    /** Every call can make its table in a slot that another one was refused for as FULL. */
    private static void slotIsFreeAfterFull() {
        afterFull("store(7)", 2, e -> e.store(7));
        afterFull("sort(0, 0, 7)", 3, e -> e.sort(0, 0, 7));
        afterFull("select(0, 2, 2, 7)", 2, e -> e.select(0, 2, 2, 7));
        afterFull("distinct(0, 7)", 2, e -> e.distinct(0, 7));
        afterFull("group(0, 7)", 2, e -> e.group(0, 7));
        afterFull("combine(3, 0, 1, 7)", 4, e -> e.combine(3, 0, 1, 7));
        afterFull("join(0, 0, 7)", 4, e -> e.join(0, 0, 7));
    }

    private static void afterFull(String call, int rows, ToIntFunction<BlockExecutor> made) {
        BlockExecutor x = standing();
        Check.due("combine(3, 2, 2, 7)", x.combine(3, 2, 2, 7), BlockExecutor.FULL);
        Check.due("join(2, 2, 7)", x.join(2, 2, 7), BlockExecutor.FULL);
        Check.due(call + " after FULL", made.applyAsInt(x), rows);
        Check.due("rows(7)", x.rows(7), rows);
    }

    private static void unchanged(String call, int due, ToIntFunction<BlockExecutor> made) {
        BlockExecutor x = standing();
        String before = Check.picture(x);
        Check.due(call, made.applyAsInt(x), due);
        Check.due("after " + call + ", all", Check.picture(x), before);
        Check.due("after " + call + ", store(6)", x.store(6), 2);
        Check.dueTable(x, 6, 8, 9, -8, -9);
        Check.due("after " + call + ", select(0, 2, 2, 7)", x.select(0, 2, 2, 7), 2);
        Check.dueTable(x, 7, 2, 1, 2, 1);
        Check.due("after " + call + ", transfers()", x.transfers(), 1 + 1 + 15 + 0 + 1 + 1 + 2);
    }
}
