/**
 * Tables on a disk of blocks, worked on with a memory of a few frames. The operators do their work
 * in memory and count the transfers that the document's algorithms would need.
 *
 * <p>Every table and work area is made in the constructor and used again, so that no call makes an
 * object.
 */
public final class BlockExecutor {
    public static final int BAD = -1;
    public static final int ABSENT = -2;
    public static final int TAKEN = -3;
    public static final int FULL = -4;

    private static final int FINE = 0;

    private static final int SLOTS = 8;
    private static final int MOST_ROWS = 60;
    private static final int BLOCK_ROWS = 4;
    private static final int FEWEST_FRAMES = 3;
    private static final int MOST_FRAMES = 6;
    private static final int LAST_LEVEL = 3;

    private static final int BY_KEY = 0;
    private static final int BY_VALUE = 1;
    private static final int BY_KEY_AND_VALUE = 2;

    private static final int GREATER_COUNT = 0;
    private static final int SMALLER_COUNT = 1;
    private static final int DIFFERENCE = 2;
    private static final int SUM = 3;

    /** 3 to 6, so that one and even two less is still a number to divide by and to step with. */
    private final int frames;
    private final Table[] tables;
    private final boolean[] held;
    private final Table input;
    private final Table workA;
    private final Table workB;
    private final Table spare;
    private long moved;

    public BlockExecutor(int frames) {
        this.frames = Math.min(Math.max(frames, FEWEST_FRAMES), MOST_FRAMES);
        this.tables = new Table[SLOTS];
        for (int slot = 0; slot < SLOTS; slot++) {
            this.tables[slot] = new Table();
        }
        this.held = new boolean[SLOTS];
        this.input = new Table();
        this.workA = new Table();
        this.workB = new Table();
        this.spare = new Table();
        this.moved = 0L;
    }

    // ---- tables in and out, and looking at them ----

    public boolean put(int key, int value) {
        if (input.count >= MOST_ROWS) {
            return false;
        }
        input.append(key, value);
        return true;
    }

    public int store(int into) {
        if (!isSlot(into)) {
            return BAD;
        }
        if (held[into]) {
            return TAKEN;
        }
        tables[into].copyFrom(input);
        input.clear();
        return finish(into, sizeOf(tables[into].count));
    }

    public int drop(int slot) {
        if (!isSlot(slot)) {
            return BAD;
        }
        if (!held[slot]) {
            return ABSENT;
        }
        held[slot] = false;
        return tables[slot].count;
    }

    public int rows(int slot) {
        return holdsTable(slot) ? tables[slot].count : -1;
    }

    public int key(int slot, int place) {
        return holdsRow(slot, place) ? tables[slot].keys[place] : 0;
    }

    public int value(int slot, int place) {
        return holdsRow(slot, place) ? tables[slot].values[place] : 0;
    }

    // ---- operators ----

    public int sort(int from, int order, int into) {
        if (order < BY_KEY || order > BY_KEY_AND_VALUE) {
            return BAD;
        }
        int refusal = refusalOf(from, from, into);
        if (refusal != FINE) {
            return refusal;
        }
        Table made = tables[into];
        made.copyFrom(tables[from]);
        made.arrange(order);
        return finish(into, sortCost(made.count));
    }

    public int select(int from, int low, int high, int into) {
        int refusal = refusalOf(from, from, into);
        if (refusal != FINE) {
            return refusal;
        }
        Table source = tables[from];
        Table made = tables[into];
        made.clear();
        for (int i = 0; i < source.count; i++) {
            if (low <= source.keys[i] && source.keys[i] <= high) {
                made.append(source.keys[i], source.values[i]);
            }
        }
        return finish(into, sizeOf(source.count) + sizeOf(made.count));
    }

    public int distinct(int from, int into) {
        int refusal = refusalOf(from, from, into);
        if (refusal != FINE) {
            return refusal;
        }
        Table made = tables[into];
        made.copyFrom(tables[from]);
        made.arrange(BY_KEY_AND_VALUE);
        made.dropRepeats();
        int before = tables[from].count;
        return finish(into, sortCost(before) + sizeOf(before) + sizeOf(made.count));
    }

    public int group(int from, int into) {
        int refusal = refusalOf(from, from, into);
        if (refusal != FINE) {
            return refusal;
        }
        Table made = tables[into];
        made.clear();
        workA.copyFrom(tables[from]);
        long cost = 0L;
        // A round always ends at least one key, so there are no more rounds than rows.
        for (int round = 0; round < MOST_ROWS && workA.count > 0; round++) {
            cost += sizeOf(workA.count);
            groupOneRound(workA, made);
            cost += sizeOf(workA.count);
        }
        return finish(into, cost + sizeOf(made.count));
    }

    public int combine(int kind, int a, int b, int into) {
        if (kind < GREATER_COUNT || kind > SUM) {
            return BAD;
        }
        int refusal = refusalOf(a, b, into);
        if (refusal != FINE) {
            return refusal;
        }
        workA.copyFrom(tables[a]);
        workA.arrange(BY_KEY_AND_VALUE);
        workB.copyFrom(tables[b]);
        workB.arrange(BY_KEY_AND_VALUE);
        Table made = tables[into];
        made.clear();
        mergeBags(kind, made);
        long cost = sortCost(workA.count) + sortCost(workB.count);
        cost += sizeOf(workA.count) + sizeOf(workB.count);
        return finish(into, cost + sizeOf(made.count));
    }

    public int join(int a, int b, int into) {
        int refusal = refusalOf(a, b, into);
        if (refusal != FINE) {
            return refusal;
        }
        workA.copyFrom(tables[a]);
        workB.copyFrom(tables[b]);
        Table made = tables[into];
        made.clear();
        long cost = joinRanges(0, workA.count, 0, workB.count, 0, made);
        return finish(into, cost + sizeOf(made.count));
    }

    // ---- the account ----

    public long transfers() {
        return moved;
    }

    public int blocks() {
        int total = 0;
        for (int slot = 0; slot < SLOTS; slot++) {
            if (held[slot]) {
                total += sizeOf(tables[slot].count);
            }
        }
        return total;
    }

    // ---- slots and refusals ----

    private static boolean isSlot(int slot) {
        return slot >= 0 && slot < SLOTS;
    }

    private boolean holdsTable(int slot) {
        return isSlot(slot) && held[slot];
    }

    private boolean holdsRow(int slot, int place) {
        return holdsTable(slot) && place >= 0 && place < tables[slot].count;
    }

    /** An operator of one table names it as both a and b. */
    private int refusalOf(int a, int b, int into) {
        if (!isSlot(a) || !isSlot(b) || !isSlot(into)) {
            return BAD;
        }
        if (!held[a] || !held[b]) {
            return ABSENT;
        }
        if (held[into]) {
            return TAKEN;
        }
        return FINE;
    }

    /**
     * The table was made in place in a slot that does not hold one yet. Only here does it become
     * visible and paid for, so that a call refused as FULL changes nothing.
     */
    private int finish(int into, long cost) {
        Table made = tables[into];
        if (made.overfull) {
            return FULL;
        }
        held[into] = true;
        moved += cost;
        return made.count;
    }

    // ---- costs ----

    private static int sizeOf(int rowCount) {
        return dividedUp(rowCount, BLOCK_ROWS);
    }

    private static int dividedUp(int number, int divisor) {
        return (number + divisor - 1) / divisor;
    }

    private long sortCost(int rowCount) {
        int size = sizeOf(rowCount);
        int runs = dividedUp(size, frames);
        int passes = 0;
        // A pass makes the runs fewer, so there are fewer passes than rows.
        while (runs > 1 && passes < MOST_ROWS) {
            runs = dividedUp(runs, frames - 1);
            passes++;
        }
        return 2L * size * (1 + passes);
    }

    /** All frames but one for reading and one for writing are there to hold rows or sums. */
    private int rowsInMemory() {
        return BLOCK_ROWS * (frames - 2);
    }

    // ---- groups ----

    /** Takes out of the rest the rows whose keys get their sums in this round. */
    private void groupOneRound(Table rest, Table made) {
        int firstOfRound = made.count;
        int kept = 0;
        for (int i = 0; i < rest.count; i++) {
            int key = rest.keys[i];
            int place = made.placeOfKey(key, firstOfRound);
            if (place < made.count) {
                made.values[place] += rest.values[i];
            } else if (made.count - firstOfRound < rowsInMemory()) {
                made.append(key, rest.values[i]);
            } else {
                rest.keys[kept] = key;
                rest.values[kept] = rest.values[i];
                kept++;
            }
        }
        rest.count = kept;
    }

    // ---- bags ----

    /** Goes through both sorted work tables at once, a different row in every step. */
    private void mergeBags(int kind, Table made) {
        int i = 0;
        int j = 0;
        for (int step = 0; step < 2 * MOST_ROWS; step++) {
            if (i >= workA.count && j >= workB.count) {
                break;
            }
            boolean takeA = isNextFromA(i, j);
            int key = takeA ? workA.keys[i] : workB.keys[j];
            int value = takeA ? workA.values[i] : workB.values[j];
            int inA = workA.repeatsFrom(i, key, value);
            int inB = workB.repeatsFrom(j, key, value);
            int times = timesInResult(kind, inA, inB);
            for (int copy = 0; copy < times; copy++) {
                made.append(key, value);
            }
            i += inA;
            j += inB;
        }
    }

    private boolean isNextFromA(int i, int j) {
        if (i >= workA.count) {
            return false;
        }
        if (j >= workB.count) {
            return true;
        }
        int compared = compareRows(BY_KEY_AND_VALUE,
                workA.keys[i], workA.values[i], workB.keys[j], workB.values[j]);
        return compared <= 0;
    }

    private static int timesInResult(int kind, int inA, int inB) {
        switch (kind) {
            case GREATER_COUNT:
                return Math.max(inA, inB);
            case SMALLER_COUNT:
                return Math.min(inA, inB);
            case DIFFERENCE:
                return Math.max(inA - inB, 0);
            default:
                return inA + inB;
        }
    }

    // ---- joins ----

    /**
     * Joins the rows aFrom .. aTo - 1 of work table A with the rows bFrom .. bTo - 1 of work table
     * B and answers the cost. It may reorder the rows of its own ranges: nobody needs their order
     * afterwards.
     */
    private long joinRanges(int aFrom, int aTo, int bFrom, int bTo, int level, Table made) {
        if (aFrom >= aTo || bFrom >= bTo) {
            return 0L;
        }
        if (level >= LAST_LEVEL || bTo - bFrom <= rowsInMemory()) {
            return joinByChunks(aFrom, aTo, bFrom, bTo, made);
        }
        partition(workA, workA.values, aFrom, aTo, level);
        partition(workB, workB.keys, bFrom, bTo, level);
        long cost = sizeOf(aTo - aFrom) + sizeOf(bTo - bFrom);
        int aStart = aFrom;
        int bStart = bFrom;
        for (int part = 0; part < frames - 1; part++) {
            int aEnd = endOfPart(workA.values, aStart, aTo, level, part);
            int bEnd = endOfPart(workB.keys, bStart, bTo, level, part);
            cost += sizeOf(aEnd - aStart) + sizeOf(bEnd - bStart);
            cost += joinRanges(aStart, aEnd, bStart, bEnd, level + 1, made);
            aStart = aEnd;
            bStart = bEnd;
        }
        return cost;
    }

    private long joinByChunks(int aFrom, int aTo, int bFrom, int bTo, Table made) {
        int chunkRows = rowsInMemory();
        int chunks = dividedUp(bTo - bFrom, chunkRows);
        for (int chunk = 0; chunk < chunks; chunk++) {
            int start = bFrom + chunk * chunkRows;
            joinWithChunk(aFrom, aTo, start, Math.min(start + chunkRows, bTo), made);
        }
        return sizeOf(bTo - bFrom) + (long) chunks * sizeOf(aTo - aFrom);
    }

    private void joinWithChunk(int aFrom, int aTo, int start, int end, Table made) {
        for (int i = aFrom; i < aTo; i++) {
            for (int j = start; j < end; j++) {
                if (workA.values[i] == workB.keys[j]) {
                    made.append(workA.keys[i], workB.values[j]);
                }
            }
        }
    }

    /** Brings the rows of a range into the order of their parts; the column is one of the table's. */
    private void partition(Table table, int[] column, int from, int to, int level) {
        spare.clear();
        for (int part = 0; part < frames - 1; part++) {
            for (int i = from; i < to; i++) {
                if (digitOf(column[i], level) == part) {
                    spare.append(table.keys[i], table.values[i]);
                }
            }
        }
        System.arraycopy(spare.keys, 0, table.keys, from, to - from);
        System.arraycopy(spare.values, 0, table.values, from, to - from);
    }

    private int endOfPart(int[] column, int from, int to, int level, int part) {
        int end = from;
        while (end < to && digitOf(column[end], level) == part) {
            end++;
        }
        return end;
    }

    private int digitOf(int number, int level) {
        int base = frames - 1;
        int rest = Math.floorMod(number, base * base * base);
        for (int digit = 0; digit < level; digit++) {
            rest /= base;
        }
        return rest % base;
    }

    // ---- rows ----

    private static int compareRows(int order, int key, int value, int otherKey, int otherValue) {
        if (order == BY_VALUE) {
            return Integer.compare(value, otherValue);
        }
        int byKey = Integer.compare(key, otherKey);
        if (order == BY_KEY || byKey != 0) {
            return byKey;
        }
        return Integer.compare(value, otherValue);
    }

    /** A list of at most MOST_ROWS rows. */
    private static final class Table {
        final int[] keys = new int[MOST_ROWS];
        final int[] values = new int[MOST_ROWS];
        int count;
        /** A row was appended for which there was no place. */
        boolean overfull;

        void clear() {
            count = 0;
            overfull = false;
        }

        void append(int key, int value) {
            if (count >= MOST_ROWS) {
                overfull = true;
                return;
            }
            keys[count] = key;
            values[count] = value;
            count++;
        }

        void copyFrom(Table other) {
            System.arraycopy(other.keys, 0, keys, 0, other.count);
            System.arraycopy(other.values, 0, values, 0, other.count);
            count = other.count;
            overfull = false;
        }

        /** By insertion: it is stable, needs no second list, and 60 rows are few. */
        void arrange(int order) {
            for (int i = 1; i < count; i++) {
                int key = keys[i];
                int value = values[i];
                int j = i;
                while (j > 0 && compareRows(order, key, value, keys[j - 1], values[j - 1]) < 0) {
                    keys[j] = keys[j - 1];
                    values[j] = values[j - 1];
                    j--;
                }
                keys[j] = key;
                values[j] = value;
            }
        }

        /** Leaves one of every run of same rows, which is all repeats once the rows are sorted. */
        void dropRepeats() {
            int kept = 0;
            for (int i = 0; i < count; i++) {
                if (kept == 0 || keys[i] != keys[kept - 1] || values[i] != values[kept - 1]) {
                    keys[kept] = keys[i];
                    values[kept] = values[i];
                    kept++;
                }
            }
            count = kept;
        }

        /** The first place from start on whose row has the key; count when there is none. */
        int placeOfKey(int key, int start) {
            int place = start;
            while (place < count && keys[place] != key) {
                place++;
            }
            return place;
        }

        /** How many rows from start on, one after the other, are this row. */
        int repeatsFrom(int start, int key, int value) {
            int place = start;
            while (place < count && keys[place] == key && values[place] == value) {
                place++;
            }
            return place - start;
        }
    }
}
