/** The sentences of the promises 1 to 7 that name a boundary case: one test for each. */
public final class BoundaryTablesTest {
    private static final int LOW = Integer.MIN_VALUE;
    private static final int HIGH = Integer.MAX_VALUE;
    private static final int[] WRONG_SLOTS = {-1, 8, LOW, HIGH};

    public static void main(String[] args) {
        Check.sentence("1: M is frames, but 3 when that is less than 3,",
                BoundaryTablesTest::tooFewFrames);
        Check.sentence("1: and 6 when it is more than 6.",
                BoundaryTablesTest::tooManyFrames);
        Check.sentence("1: No tables, no input, no transfers.",
                BoundaryTablesTest::nothingAtFirst);
        Check.sentence("2: Appends a row to the INPUT, a list outside the disk: true;",
                BoundaryTablesTest::putUpToSixty);
        Check.sentence("2: false, changing nothing, when 60 rows are in it.",
                BoundaryTablesTest::putIntoFullInput);
        Check.sentence("3: Writes the input as a table into a slot and answers how many rows it has;",
                BoundaryTablesTest::storeFromNoneToSixty);
        Check.sentence("3: the input is empty then.",
                BoundaryTablesTest::inputIsEmptyThen);
        Check.sentence("3: BAD when the slot is not 0 .. 7;",
                BoundaryTablesTest::storeBad);
        Check.sentence("3: TAKEN when it holds a table.",
                BoundaryTablesTest::storeTaken);
        Check.sentence("3: It costs the size of the input.",
                BoundaryTablesTest::storeCost);
        Check.sentence("4: Takes the table out of a slot, without cost, and answers how many rows it"
                + " had.",
                BoundaryTablesTest::dropAnswers);
        Check.sentence("4: BAD, ABSENT.",
                BoundaryTablesTest::dropRefused);
        Check.sentence("5: How many rows the table in a slot has; -1 when the slot is not 0 .. 7 or"
                + " holds none.",
                BoundaryTablesTest::rowsOfNone);
        Check.sentence("6: The key of the row at a place of the table in a slot; 0 when there is none.",
                BoundaryTablesTest::keyOfNone);
        Check.sentence("6: (Looking costs nothing.)",
                BoundaryTablesTest::lookingCostsNothing);
        Check.sentence("7: The value of the row at a place of the table in a slot; 0 when there is"
                + " none.",
                BoundaryTablesTest::valueOfNone);
        Check.end();
    }

    private static void tooFewFrames() {
        int[] tooFew = {2, 1, 0, -1, -100, LOW + 1, LOW};
        for (int asked : tooFew) {
            dueFrames(asked, 3);
        }
        dueFrames(3, 3);
        dueFrames(4, 4);
    }

    private static void tooManyFrames() {
        int[] tooMany = {7, 8, 9, 100, HIGH - 1, HIGH};
        for (int asked : tooMany) {
            dueFrames(asked, 6);
        }
        dueFrames(6, 6);
        dueFrames(5, 5);
    }

    /** The costs tell how many frames there are. */
    private static void dueFrames(int asked, int frames) {
        int[] sort24 = {24, 24, 24, 12};
        int[] sort60 = {120, 90, 60, 60};
        int[] group60 = {240, 128, 90, 72};
        BlockExecutor x = Check.fillCounting(new BlockExecutor(asked), 0, 60);
        Check.fillCounting(x, 1, 24);
        long before = x.transfers();
        Check.due("sort", x.sort(1, 0, 2), 24);
        Check.dueCost("sort of 24 rows, frames " + asked, x, before, sort24[frames - 3]);
        before = x.transfers();
        Check.due("sort", x.sort(0, 0, 3), 60);
        Check.dueCost("sort of 60 rows, frames " + asked, x, before, sort60[frames - 3]);
        before = x.transfers();
        Check.due("group", x.group(0, 4), 60);
        Check.dueCost("group of 60 keys, frames " + asked, x, before, group60[frames - 3]);
        int[] inMemory = {4, 8, 12, 16};
        int[] atOnce = {3, 4, 5, 6};
        int[] inParts = {9, 11, 13, 15};
        dueJoinCost(asked, inMemory[frames - 3], atOnce[frames - 3]);
        dueJoinCost(asked, inMemory[frames - 3] + 1, inParts[frames - 3]);
    }

    private static void dueJoinCost(int asked, int rows, int cost) {
        BlockExecutor x = Check.fill(new BlockExecutor(asked), 0, 0, 0);
        Check.fillCounting(x, 1, rows);
        long before = x.transfers();
        Check.due("join", x.join(0, 1, 2), 1);
        Check.dueCost("join with " + rows + " rows, frames " + asked, x, before, cost);
    }

    private static void nothingAtFirst() {
        int[] asked = {LOW, 3, 6, HIGH};
        for (int frames : asked) {
            BlockExecutor x = new BlockExecutor(frames);
            Check.due("transfers()", x.transfers(), 0);
            Check.due("blocks()", x.blocks(), 0);
            for (int slot = 0; slot < 8; slot++) {
                Check.due("rows(" + slot + ")", x.rows(slot), -1);
                Check.due("key(" + slot + ", 0)", x.key(slot, 0), 0);
                Check.due("value(" + slot + ", 0)", x.value(slot, 0), 0);
                Check.due("drop(" + slot + ")", x.drop(slot), BlockExecutor.ABSENT);
                Check.due("sort of " + slot, x.sort(slot, 0, 7 - slot), BlockExecutor.ABSENT);
            }
            Check.due("store of no input", x.store(0), 0);
            Check.due("transfers()", x.transfers(), 0);
        }
    }

    private static void putUpToSixty() {
        BlockExecutor x = new BlockExecutor(3);
        for (int i = 0; i < 60; i++) {
            Check.due("put number " + (i + 1), x.put(i % 7, HIGH - i), true);
        }
        // The input lies outside the disk.
        Check.due("transfers()", x.transfers(), 0);
        Check.due("blocks()", x.blocks(), 0);
        for (int slot = 0; slot < 8; slot++) {
            Check.due("rows(" + slot + ")", x.rows(slot), -1);
        }
        Check.due("store(0)", x.store(0), 60);
        for (int place = 0; place < 60; place++) {
            Check.due("key at " + place, x.key(0, place), place % 7);
            Check.due("value at " + place, x.value(0, place), HIGH - place);
        }
    }

    private static void putIntoFullInput() {
        BlockExecutor x = Check.fill(new BlockExecutor(3), 7, 1, 1);
        for (int i = 0; i < 60; i++) {
            Check.due("put", x.put(i, -i), true);
        }
        String before = Check.picture(x);
        Check.due("put number 61", x.put(100, 100), false);
        Check.due("put number 62", x.put(59, -59), false);
        Check.due("after put, all", Check.picture(x), before);
        Check.due("store(7)", x.store(7), BlockExecutor.TAKEN);
        Check.due("put after a refused store", x.put(100, 100), false);
        Check.due("store(0)", x.store(0), 60);
        for (int place = 0; place < 60; place++) {
            Check.due("key at " + place, x.key(0, place), place);
            Check.due("value at " + place, x.value(0, place), -place);
        }
        Check.due("put after store", x.put(100, 101), true);
        Check.due("store(1)", x.store(1), 1);
        Check.dueTable(x, 1, 100, 101);
    }

    private static void storeFromNoneToSixty() {
        for (int rows = 0; rows <= 60; rows++) {
            BlockExecutor x = new BlockExecutor(3);
            for (int i = 0; i < rows; i++) {
                Check.due("put", x.put(i, 1000 + i), true);
            }
            Check.due("store of " + rows + " rows", x.store(rows % 8), rows);
            Check.due("rows of " + rows + " rows", x.rows(rows % 8), rows);
            for (int i = 0; i < rows; i++) {
                Check.due("key", x.key(rows % 8, i), i);
                Check.due("value", x.value(rows % 8, i), 1000 + i);
            }
        }
    }

    private static void inputIsEmptyThen() {
        BlockExecutor x = Check.fillCounting(new BlockExecutor(3), 0, 60);
        Check.due("store of the empty input", x.store(1), 0);
        Check.fill(x, 2, 5, 6);
        Check.due("store of the empty input", x.store(3), 0);
        Check.dueTable(x, 1);
        Check.dueTable(x, 2, 5, 6);
        Check.dueTable(x, 3);
        Check.due("rows(0)", x.rows(0), 60);
        // Rows that are put afterwards are no more rows of the table.
        Check.due("put", x.put(7, 8), true);
        Check.dueTable(x, 2, 5, 6);
    }

    private static void storeBad() {
        BlockExecutor x = new BlockExecutor(3);
        Check.due("put", x.put(1, 2), true);
        for (int slot : WRONG_SLOTS) {
            Check.due("store(" + slot + ")", x.store(slot), BlockExecutor.BAD);
        }
        Check.due("transfers()", x.transfers(), 0);
        Check.due("store(0)", x.store(0), 1);
        Check.due("put", x.put(3, 4), true);
        Check.due("store(7)", x.store(7), 1);
        Check.dueTable(x, 0, 1, 2);
        Check.dueTable(x, 7, 3, 4);
    }

    private static void storeTaken() {
        BlockExecutor x = Check.fill(new BlockExecutor(3), 0, 1, 2);
        Check.fill(x, 7);
        Check.due("store(0) of no input", x.store(0), BlockExecutor.TAKEN);
        Check.due("store(7) of no input", x.store(7), BlockExecutor.TAKEN);
        Check.due("put", x.put(3, 4), true);
        Check.due("store(0)", x.store(0), BlockExecutor.TAKEN);
        Check.due("store(7), onto no rows", x.store(7), BlockExecutor.TAKEN);
        Check.dueTable(x, 0, 1, 2);
        Check.dueTable(x, 7);
        Check.due("transfers()", x.transfers(), 1);
        Check.due("drop(7)", x.drop(7), 0);
        Check.due("store(7) when it is free", x.store(7), 1);
        Check.dueTable(x, 7, 3, 4);
        Check.due("sort(0, 0, 1)", x.sort(0, 0, 1), 1);
        Check.due("store(1), onto what was made", x.store(1), BlockExecutor.TAKEN);
    }

    private static void storeCost() {
        int[] rows = {0, 1, 3, 4, 5, 7, 8, 9, 56, 57, 59, 60};
        int[] sizes = {0, 1, 1, 1, 2, 2, 2, 3, 14, 15, 15, 15};
        for (int frames = 3; frames <= 6; frames++) {
            for (int i = 0; i < rows.length; i++) {
                BlockExecutor x = Check.fillCounting(new BlockExecutor(frames), 0, rows[i]);
                Check.due("transfers() after " + rows[i] + " rows", x.transfers(), sizes[i]);
                Check.fill(x, 1, 5, 5);
                Check.due("transfers() after one more", x.transfers(), sizes[i] + 1);
            }
        }
    }

    private static void dropAnswers() {
        BlockExecutor x = Check.fillCounting(new BlockExecutor(3), 0, 60);
        Check.fill(x, 7, 1, 2);
        Check.fill(x, 3);
        Check.due("drop of 60 rows", x.drop(0), 60);
        Check.due("drop of no rows", x.drop(3), 0);
        Check.due("transfers()", x.transfers(), 16);
        Check.due("rows(0)", x.rows(0), -1);
        Check.due("rows(3)", x.rows(3), -1);
        Check.dueTable(x, 7, 1, 2);
        Check.due("drop of the last", x.drop(7), 1);
        Check.due("rows(7)", x.rows(7), -1);
        Check.due("blocks()", x.blocks(), 0);
        Check.due("transfers()", x.transfers(), 16);
        Check.fill(x, 0, 8, 9);
        Check.dueTable(x, 0, 8, 9);
    }

    private static void dropRefused() {
        BlockExecutor x = Check.fill(new BlockExecutor(3), 0, 1, 2);
        for (int slot : WRONG_SLOTS) {
            Check.due("drop(" + slot + ")", x.drop(slot), BlockExecutor.BAD);
        }
        for (int slot = 1; slot < 8; slot++) {
            Check.due("drop(" + slot + ")", x.drop(slot), BlockExecutor.ABSENT);
        }
        Check.dueTable(x, 0, 1, 2);
        Check.due("drop(0)", x.drop(0), 1);
        Check.due("drop(0) again", x.drop(0), BlockExecutor.ABSENT);
        Check.due("transfers()", x.transfers(), 1);
    }

    private static void rowsOfNone() {
        BlockExecutor x = Check.fillCounting(new BlockExecutor(3), 0, 60);
        Check.fill(x, 7);
        for (int slot : WRONG_SLOTS) {
            Check.due("rows(" + slot + ")", x.rows(slot), -1);
        }
        for (int slot = 1; slot < 7; slot++) {
            Check.due("rows(" + slot + ")", x.rows(slot), -1);
        }
        Check.due("rows of 60", x.rows(0), 60);
        Check.due("rows of a table without rows", x.rows(7), 0);
        Check.due("drop(0)", x.drop(0), 60);
        Check.due("rows after drop", x.rows(0), -1);
    }

    private static void keyOfNone() {
        BlockExecutor x = Check.fill(new BlockExecutor(3), 0, 11, 21, -12, 22, 13, 23);
        Check.fill(x, 7);
        int[] outside = {-1, 3, 4, 59, 60, LOW, HIGH};
        for (int place : outside) {
            Check.due("key(0, " + place + ")", x.key(0, place), 0);
        }
        for (int slot : WRONG_SLOTS) {
            Check.due("key(" + slot + ", 0)", x.key(slot, 0), 0);
        }
        Check.due("key(7, 0), no rows", x.key(7, 0), 0);
        Check.due("key(1, 0), no table", x.key(1, 0), 0);
        Check.due("the first key", x.key(0, 0), 11);
        Check.due("the last key", x.key(0, 2), 13);
        Check.due("drop(0)", x.drop(0), 3);
        Check.due("key(0, 0) after drop", x.key(0, 0), 0);
        Check.fill(x, 0, 5, 6);
        Check.due("key(0, 1), which an older table had", x.key(0, 1), 0);
    }

    private static void valueOfNone() {
        BlockExecutor x = Check.fill(new BlockExecutor(3), 0, 11, 21, 12, -22, 13, 23);
        Check.fill(x, 7);
        int[] outside = {-1, 3, 4, 59, 60, LOW, HIGH};
        for (int place : outside) {
            Check.due("value(0, " + place + ")", x.value(0, place), 0);
        }
        for (int slot : WRONG_SLOTS) {
            Check.due("value(" + slot + ", 0)", x.value(slot, 0), 0);
        }
        Check.due("value(7, 0), no rows", x.value(7, 0), 0);
        Check.due("value(1, 0), no table", x.value(1, 0), 0);
        Check.due("the first value", x.value(0, 0), 21);
        Check.due("the last value", x.value(0, 2), 23);
        Check.due("drop(0)", x.drop(0), 3);
        Check.due("value(0, 0) after drop", x.value(0, 0), 0);
        Check.fill(x, 0, 5, 6);
        Check.due("value(0, 1), which an older table had", x.value(0, 1), 0);
    }

    private static void lookingCostsNothing() {
        BlockExecutor x = Check.fillCounting(new BlockExecutor(3), 0, 60);
        for (int place = -1; place <= 60; place++) {
            x.key(0, place);
            x.value(0, place);
        }
        for (int slot = -1; slot <= 8; slot++) {
            x.rows(slot);
            x.key(slot, 0);
            x.value(slot, 0);
        }
        Check.due("blocks()", x.blocks(), 15);
        Check.due("transfers()", x.transfers(), 15);
    }
}
