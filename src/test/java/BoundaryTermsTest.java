/**
 * The sentences of "Terms" that name a boundary case of rows, tables, slots, sizes, orders, the
 * sort cost and digits: one test for each.
 */
public final class BoundaryTermsTest {
    private static final int LOW = Integer.MIN_VALUE;
    private static final int HIGH = Integer.MAX_VALUE;
    private static final int[] WRONG_SLOTS = {-1, 8, LOW, HIGH};

    public static void main(String[] args) {
        Check.sentence("A ROW is a KEY and a VALUE, both any int.",
                BoundaryTermsTest::anyInt);
        Check.sentence("A TABLE is a list of at most 60 rows;",
                BoundaryTermsTest::atMostSixtyRows);
        Check.sentence("its rows have the places 0, 1, ...",
                BoundaryTermsTest::placesFromZero);
        Check.sentence("There are 8 SLOTS, 0 .. 7;",
                BoundaryTermsTest::slotsZeroToSeven);
        Check.sentence("each holds a table or none (a table without rows is a table).",
                BoundaryTermsTest::tableWithoutRows);
        Check.sentence("The SIZE of n rows is n / 4 rounded up;",
                BoundaryTermsTest::sizeRoundedUp);
        Check.sentence("a table or file of n rows takes that many blocks, and reading or writing it"
                + " wholly costs that many TRANSFERS.",
                BoundaryTermsTest::takesAndCostsItsSize);
        Check.sentence("2 by key and, where keys are the same, by value (numbers as signed).",
                BoundaryTermsTest::numbersAsSigned);
        Check.sentence("Sorting is stable: rows that are the same in the order keep the order that"
                + " they had.",
                BoundaryTermsTest::stable);
        Check.sentence("The SORT COST of n rows: with b = the size of n: 0 when b is 0;",
                BoundaryTermsTest::noSortCostOfNothing);
        Check.sentence("otherwise 2 b (1 + p), where p is how often r can be made r / (M - 1),"
                + " rounded up, until it is 1, beginning with r = b / M rounded up.",
                BoundaryTermsTest::sortCostWhereAPassIsAdded);
        Check.sentence("The DIGIT d (0, 1, 2) of a number v is digit d, the lowest being digit 0,",
                BoundaryTermsTest::digitsOfSmallNumbers);
        Check.sentence("of the rest r of v modulo F * F * F",
                BoundaryTermsTest::digitsWrapAround);
        Check.sentence("(0 <= r < F * F * F, also for v below 0)",
                BoundaryTermsTest::digitsBelowZero);
        Check.end();
    }

    private static void anyInt() {
        int[] rows = {HIGH, LOW, LOW, HIGH, 0, 0, -1, LOW};
        BlockExecutor x = Check.fill(new BlockExecutor(3), 0, rows);
        Check.dueTable(x, 0, rows);
        Check.fill(x, 7, -7, -8, LOW + 1, HIGH - 1, HIGH - 1, LOW + 1, 65536, -65536);
        Check.dueTable(x, 7, -7, -8, LOW + 1, HIGH - 1, HIGH - 1, LOW + 1, 65536, -65536);
        Check.due("sort", x.sort(0, 0, 1), 4);
        Check.dueTable(x, 1, LOW, HIGH, -1, LOW, 0, 0, HIGH, LOW);
        Check.due("select", x.select(0, LOW, HIGH, 2), 4);
        Check.dueTable(x, 2, rows);
        Check.due("distinct", x.distinct(0, 3), 4);
        Check.dueTable(x, 3, LOW, HIGH, -1, LOW, 0, 0, HIGH, LOW);
        Check.due("group", x.group(0, 4), 4);
        Check.dueTable(x, 4, rows);
        Check.due("combine", x.combine(1, 0, 0, 5), 4);
        Check.dueTable(x, 5, LOW, HIGH, -1, LOW, 0, 0, HIGH, LOW);
        Check.due("join", x.join(0, 0, 6), 4);
        Check.dueTable(x, 6, HIGH, HIGH, LOW, LOW, 0, 0, -1, HIGH);
    }

    private static void atMostSixtyRows() {
        BlockExecutor x = Check.fillCounting(new BlockExecutor(6), 0, 60);
        Check.due("put", x.put(60, 0), true);
        Check.due("store(1)", x.store(1), 1);
        Check.due("sort makes 60", x.sort(0, 1, 2), 60);
        Check.due("drop", x.drop(2), 60);
        Check.due("select makes 60", x.select(0, 0, 59, 2), 60);
        Check.due("drop", x.drop(2), 60);
        Check.due("distinct makes 60", x.distinct(0, 2), 60);
        Check.due("drop", x.drop(2), 60);
        Check.due("group makes 60", x.group(0, 2), 60);
        Check.due("drop", x.drop(2), 60);
        Check.due("combine makes 60", x.combine(0, 0, 0, 2), 60);
        Check.due("drop", x.drop(2), 60);
        Check.due("combine would make 61", x.combine(0, 0, 1, 2), BlockExecutor.FULL);
        Check.due("combine would make 61", x.combine(3, 1, 0, 2), BlockExecutor.FULL);
        Check.due("join makes 60", x.join(0, 0, 2), 60);
        Check.due("rows(2)", x.rows(2), 60);
        sixtyOneByJoin();
    }

    private static void sixtyOneByJoin() {
        BlockExecutor x = Check.fillSame(new BlockExecutor(3), 0, 30, 5, 1);
        Check.fill(x, 1, 1, 1, 1, 2);
        Check.fill(x, 2, 5, 1, 5, 1, 5, 9);
        Check.fillSame(x, 3, 30, 1, 7);
        Check.due("put", x.put(9, 9), true);
        Check.due("store(4)", x.store(4), 1);
        Check.due("combine", x.combine(3, 3, 4, 5), 31);
        Check.due("join makes 60", x.join(0, 1, 6), 60);
        Check.due("join would make 61", x.join(2, 5, 7), BlockExecutor.FULL);
        Check.due("join makes 60 with 3 by 30 rows", x.join(2, 3, 7), 60);
    }

    private static void placesFromZero() {
        BlockExecutor x = Check.fillSame(new BlockExecutor(4), 0, 60, 3, 4);
        for (int place = 0; place < 60; place++) {
            Check.due("key at " + place, x.key(0, place), 3);
            Check.due("value at " + place, x.value(0, place), 4);
        }
        int[] outside = {-1, 60, 61, LOW, HIGH};
        for (int place : outside) {
            Check.due("key at " + place, x.key(0, place), 0);
            Check.due("value at " + place, x.value(0, place), 0);
        }
    }

    private static void slotsZeroToSeven() {
        for (int slot = 0; slot < 8; slot++) {
            int other = (slot + 3) % 8;
            dueSlotWorks(slot, other);
        }
        for (int slot : WRONG_SLOTS) {
            dueNoSlot(slot);
        }
    }

    private static void dueSlotWorks(int slot, int into) {
        BlockExecutor x = Check.fill(new BlockExecutor(3), slot, 1, 2);
        for (int other = 0; other < 8; other++) {
            Check.due("rows(" + other + ")", x.rows(other), other == slot ? 1 : -1);
        }
        Check.due("sort", x.sort(slot, 0, into), 1);
        Check.due("drop", x.drop(into), 1);
        Check.due("select", x.select(slot, 1, 1, into), 1);
        Check.due("drop", x.drop(into), 1);
        Check.due("distinct", x.distinct(slot, into), 1);
        Check.due("drop", x.drop(into), 1);
        Check.due("group", x.group(slot, into), 1);
        Check.due("drop", x.drop(into), 1);
        Check.due("combine", x.combine(3, slot, slot, into), 2);
        Check.due("drop", x.drop(into), 2);
        Check.due("join", x.join(slot, slot, into), 0);
        Check.due("drop", x.drop(into), 0);
        Check.due("drop", x.drop(slot), 1);
    }

    private static void dueNoSlot(int slot) {
        BlockExecutor x = Check.fill(new BlockExecutor(3), 0, 1, 2);
        Check.due("store", x.store(slot), BlockExecutor.BAD);
        Check.due("drop", x.drop(slot), BlockExecutor.BAD);
        Check.due("rows", x.rows(slot), -1);
        Check.due("key", x.key(slot, 0), 0);
        Check.due("value", x.value(slot, 0), 0);
        Check.due("sort from", x.sort(slot, 0, 1), BlockExecutor.BAD);
        Check.due("sort into", x.sort(0, 0, slot), BlockExecutor.BAD);
        Check.due("select from", x.select(slot, 0, 9, 1), BlockExecutor.BAD);
        Check.due("select into", x.select(0, 0, 9, slot), BlockExecutor.BAD);
        Check.due("distinct from", x.distinct(slot, 1), BlockExecutor.BAD);
        Check.due("distinct into", x.distinct(0, slot), BlockExecutor.BAD);
        Check.due("group from", x.group(slot, 1), BlockExecutor.BAD);
        Check.due("group into", x.group(0, slot), BlockExecutor.BAD);
        Check.due("combine a", x.combine(0, slot, 0, 1), BlockExecutor.BAD);
        Check.due("combine b", x.combine(0, 0, slot, 1), BlockExecutor.BAD);
        Check.due("combine into", x.combine(0, 0, 0, slot), BlockExecutor.BAD);
        Check.due("join a", x.join(slot, 0, 1), BlockExecutor.BAD);
        Check.due("join b", x.join(0, slot, 1), BlockExecutor.BAD);
        Check.due("join into", x.join(0, 0, slot), BlockExecutor.BAD);
    }

    private static void tableWithoutRows() {
        BlockExecutor x = new BlockExecutor(3);
        Check.due("rows of none", x.rows(0), -1);
        Check.due("store(0) of no rows", x.store(0), 0);
        Check.due("rows of a table without rows", x.rows(0), 0);
        Check.due("store(0) again", x.store(0), BlockExecutor.TAKEN);
        Check.due("sort", x.sort(0, 2, 1), 0);
        Check.due("select", x.select(1, LOW, HIGH, 2), 0);
        Check.due("distinct", x.distinct(2, 3), 0);
        Check.due("group", x.group(3, 4), 0);
        Check.due("combine", x.combine(3, 4, 0, 5), 0);
        Check.due("join", x.join(5, 0, 6), 0);
        for (int slot = 0; slot < 7; slot++) {
            Check.due("rows(" + slot + ")", x.rows(slot), 0);
            Check.due("sort into " + slot, x.sort(0, 0, slot), BlockExecutor.TAKEN);
        }
        Check.due("drop(6)", x.drop(6), 0);
        Check.due("drop(6) again", x.drop(6), BlockExecutor.ABSENT);
        Check.due("rows(6)", x.rows(6), -1);
        Check.due("blocks()", x.blocks(), 0);
        Check.due("transfers()", x.transfers(), 0);
        noRowsLeftOver();
    }

    private static void noRowsLeftOver() {
        BlockExecutor x = Check.fill(new BlockExecutor(3), 0, 1, 2);
        Check.due("select of nothing", x.select(0, 2, 9, 1), 0);
        Check.due("rows(1)", x.rows(1), 0);
        Check.due("combine of nothing", x.combine(2, 0, 0, 2), 0);
        Check.due("rows(2)", x.rows(2), 0);
        Check.due("join of nothing", x.join(0, 0, 3), 0);
        Check.due("rows(3)", x.rows(3), 0);
        Check.due("into a table without rows", x.sort(0, 0, 3), BlockExecutor.TAKEN);
    }

    private static void sizeRoundedUp() {
        for (int rows = 0; rows <= 60; rows++) {
            int whole = rows / 4;
            int size = rows % 4 == 0 ? whole : whole + 1;
            BlockExecutor x = Check.fillCounting(new BlockExecutor(3), 0, rows);
            Check.due("transfers() with " + rows + " rows", x.transfers(), size);
            Check.due("blocks() with " + rows + " rows", x.blocks(), size);
        }
    }

    /** Reading 9 rows costs 3; writing 0, 1, 4, 5, 8 or 9 of them costs 0, 1, 1, 2, 2 or 3. */
    private static void takesAndCostsItsSize() {
        int[] taken = {0, 1, 4, 5, 8, 9};
        int[] sizes = {0, 1, 1, 2, 2, 3};
        BlockExecutor x = Check.fillCounting(new BlockExecutor(3), 0, 9);
        for (int i = 0; i < taken.length; i++) {
            long before = x.transfers();
            Check.due("select", x.select(0, 0, taken[i] - 1, 1), taken[i]);
            Check.dueCost("taking " + taken[i] + " of 9 rows", x, before, 3 + sizes[i]);
            Check.due("blocks()", x.blocks(), 3 + sizes[i]);
            Check.due("drop", x.drop(1), taken[i]);
        }
    }

    private static void numbersAsSigned() {
        BlockExecutor x = Check.fill(new BlockExecutor(3), 0,
                1, HIGH, HIGH, 1, -1, LOW, 0, 0, LOW, -1, 1, LOW, 1, -1, 1, 0);
        Check.due("sort in order 0", x.sort(0, 0, 1), 8);
        Check.dueTable(x, 1, LOW, -1, -1, LOW, 0, 0, 1, HIGH, 1, LOW, 1, -1, 1, 0, HIGH, 1);
        Check.due("sort in order 1", x.sort(0, 1, 2), 8);
        Check.dueTable(x, 2, -1, LOW, 1, LOW, LOW, -1, 1, -1, 0, 0, 1, 0, HIGH, 1, 1, HIGH);
        Check.due("sort in order 2", x.sort(0, 2, 3), 8);
        int[] byBoth = {LOW, -1, -1, LOW, 0, 0, 1, LOW, 1, -1, 1, 0, 1, HIGH, HIGH, 1};
        Check.dueTable(x, 3, byBoth);
        Check.due("distinct", x.distinct(0, 4), 8);
        Check.dueTable(x, 4, byBoth);
        Check.due("combine", x.combine(0, 0, 0, 5), 8);
        Check.dueTable(x, 5, byBoth);
        Check.due("select of those below 0", x.select(0, LOW, -1, 6), 2);
        Check.dueTable(x, 6, -1, LOW, LOW, -1);
        signedWhereTwoBagsMeet();
    }

    private static void signedWhereTwoBagsMeet() {
        BlockExecutor x = Check.fill(new BlockExecutor(3), 0, HIGH, 0, 0, HIGH);
        Check.fill(x, 1, LOW, 0, 0, LOW);
        Check.due("combine", x.combine(3, 0, 1, 2), 4);
        Check.dueTable(x, 2, LOW, 0, 0, LOW, 0, HIGH, HIGH, 0);
    }

    /** 60 rows of which 20 each are the same in the order, told apart by their other number. */
    private static void stable() {
        for (int order = 0; order <= 1; order++) {
            BlockExecutor x = new BlockExecutor(3);
            for (int i = 0; i < 60; i++) {
                int same = 2 - i % 3;
                Check.due("put", order == 0 ? x.put(same, -i) : x.put(-i, same), true);
            }
            Check.due("store", x.store(0), 60);
            Check.due("sort", x.sort(0, order, 1), 60);
            for (int place = 0; place < 60; place++) {
                int group = place / 20;
                int number = -(2 - group + 3 * (place % 20));
                Check.due("key at " + place, x.key(1, place), order == 0 ? group : number);
                Check.due("value at " + place, x.value(1, place), order == 0 ? number : group);
            }
        }
    }

    private static void noSortCostOfNothing() {
        for (int frames = 3; frames <= 6; frames++) {
            BlockExecutor x = new BlockExecutor(frames);
            Check.due("store of no rows", x.store(0), 0);
            for (int order = 0; order <= 2; order++) {
                Check.due("sort of no rows", x.sort(0, order, 1 + order), 0);
            }
            Check.due("distinct of no rows", x.distinct(0, 4), 0);
            Check.due("combine of no rows", x.combine(0, 0, 0, 5), 0);
            Check.due("transfers()", x.transfers(), 0);
            Check.fill(x, 6, 1, 1);
            Check.due("combine with no rows", x.combine(0, 0, 6, 7), 1);
            Check.due("transfers()", x.transfers(), 1 + (0 + 2) + (0 + 1) + 1);
        }
    }

    /** The last number of blocks that p = 0, 1, ... is enough for: M, M (M - 1), M (M - 1) (M - 1). */
    private static void sortCostWhereAPassIsAdded() {
        int[][] lasts = {{3, 6, 12, 15}, {4, 12, 15}, {5, 15}, {6, 15}};
        for (int frames = 3; frames <= 6; frames++) {
            int first = 1;
            int[] last = lasts[frames - 3];
            for (int p = 0; p < last.length; p++) {
                dueSortCost(frames, 4 * first - 3, 2L * first * (1 + p));
                dueSortCost(frames, 4 * first, 2L * first * (1 + p));
                dueSortCost(frames, 4 * last[p] - 3, 2L * last[p] * (1 + p));
                dueSortCost(frames, 4 * last[p], 2L * last[p] * (1 + p));
                first = last[p] + 1;
            }
        }
    }

    private static void dueSortCost(int frames, int rows, long cost) {
        BlockExecutor x = Check.fillCounting(new BlockExecutor(frames), 0, rows);
        long before = x.transfers();
        Check.due("sort", x.sort(0, 0, 1), rows);
        Check.dueCost("sort of " + rows + " rows with " + frames + " frames", x, before, cost);
    }

    private static void digitsOfSmallNumbers() {
        for (int frames = 3; frames <= 6; frames++) {
            dueLowestDigitFirst(frames);
        }
        dueDigits(3, 0, 0, 0, 0);
        dueDigits(3, 1, 1, 0, 0);
        dueDigits(3, 2, 0, 1, 0);
        dueDigits(3, 4, 0, 0, 1);
        dueDigits(3, 7, 1, 1, 1);
        dueDigits(4, 2, 2, 0, 0);
        dueDigits(4, 3, 0, 1, 0);
        dueDigits(4, 9, 0, 0, 1);
        dueDigits(4, 26, 2, 2, 2);
        dueDigits(5, 3, 3, 0, 0);
        dueDigits(5, 12, 0, 3, 0);
        dueDigits(5, 16, 0, 0, 1);
        dueDigits(5, 63, 3, 3, 3);
        dueDigits(6, 4, 4, 0, 0);
        dueDigits(6, 5, 0, 1, 0);
        dueDigits(6, 50, 0, 0, 2);
        dueDigits(6, 124, 4, 4, 4);
    }

    /**
     * 1, F and F * F have one digit 1 each, and the numbers around them none. Digit 0 parts 1 from them,
     * digit 1 then F, and digit 2 at last F * F: the later a number is parted, the sooner it is joined.
     */
    private static void dueLowestDigitFirst(int frames) {
        int f = frames - 1;
        BlockExecutor x = Check.fill(new BlockExecutor(frames), 0, 1, 1, 2, f, 3, f * f);
        int[] ends = {1, f, f * f};
        for (int number : ends) {
            Check.due("put", x.put(number, number), true);
        }
        int others = 4 * (frames - 2);
        for (int i = 0; i < others; i++) {
            Check.due("put", x.put((2 + i) * f * f * f, 0), true);
        }
        Check.due("store(1)", x.store(1), others + 3);
        Check.due("join", x.join(0, 1, 2), 3);
        Check.dueTable(x, 2, 3, f * f, 2, f, 1, 1);
    }

    private static void digitsWrapAround() {
        int[] cubes = {8, 27, 64, 125};
        for (int frames = 3; frames <= 6; frames++) {
            dueDigits(frames, cubes[frames - 3], 0, 0, 0);
            dueDigits(frames, cubes[frames - 3] + 1, 1, 0, 0);
            dueDigits(frames, 2 * cubes[frames - 3] - 1, frames - 2, frames - 2, frames - 2);
        }
        dueDigits(3, HIGH, 1, 1, 1);
        dueDigits(4, HIGH, 1, 0, 1);
        dueDigits(5, HIGH, 3, 3, 3);
        dueDigits(6, HIGH, 2, 4, 0);
    }

    private static void digitsBelowZero() {
        int[] cubes = {8, 27, 64, 125};
        for (int frames = 3; frames <= 6; frames++) {
            int highest = frames - 2;
            int cube = cubes[frames - 3];
            dueDigits(frames, -1, highest, highest, highest);
            dueDigits(frames, -(frames - 1), 0, highest, highest);
            dueDigits(frames, 1 - cube, 1, 0, 0);
            dueDigits(frames, -cube, 0, 0, 0);
            dueDigits(frames, -cube - 1, highest, highest, highest);
        }
        dueDigits(3, LOW, 0, 0, 0);
        dueDigits(4, LOW, 1, 2, 1);
        dueDigits(5, LOW, 0, 0, 0);
        dueDigits(6, LOW, 2, 0, 4);
    }

    private static void dueDigits(int frames, int number, int lowest, int middle, int highest) {
        int[] digits = {lowest, middle, highest};
        for (int level = 0; level < 3; level++) {
            for (int digit = 0; digit < frames - 1; digit++) {
                dueDigitOrder(frames, number, digits, level, digit, true);
                dueDigitOrder(frames, number, digits, level, digit, false);
            }
        }
    }

    /**
     * Joins the number with a rival that has the same digits but, at the level, the given one, among
     * rows enough that both are partitioned at that level. The lower digit of the two comes first,
     * and if they are the same, the one that is first in A.
     */
    private static void dueDigitOrder(int frames, int number, int[] digits, int level, int digit,
            boolean numberIsFirst) {
        int base = frames - 1;
        int[] weights = {1, base, base * base};
        int rest = digits[0] + digits[1] * weights[1] + digits[2] * weights[2];
        int cube = base * base * base;
        int rival = rest + (digit - digits[level]) * weights[level] + 5 * cube;
        BlockExecutor x = numberIsFirst
                ? Check.fill(new BlockExecutor(frames), 0, 1, number, 2, rival)
                : Check.fill(new BlockExecutor(frames), 0, 2, rival, 1, number);
        Check.due("put", x.put(number, 11), true);
        Check.due("put", x.put(rival, 22), true);
        int fillers = 4 * (frames - 2);
        for (int i = 0; i < fillers; i++) {
            Check.due("put", x.put(rest + (7 + i) * cube, 0), true);
        }
        Check.due("store(1)", x.store(1), fillers + 2);
        String call = "join by digit " + level + " of " + number + " with " + frames + " frames";
        Check.due(call, x.join(0, 1, 2), 2);
        boolean numberComesFirst =
                digits[level] < digit || digits[level] == digit && numberIsFirst;
        Check.due(call + ", first row", x.key(2, 0), numberComesFirst ? 1 : 2);
        Check.due(call + ", first row", x.value(2, 0), numberComesFirst ? 11 : 22);
        Check.due(call + ", second row", x.key(2, 1), numberComesFirst ? 2 : 1);
        Check.due(call + ", second row", x.value(2, 1), numberComesFirst ? 22 : 11);
    }
}
