/** What the tests share: counting wrong answers, and filling and comparing tables. */
final class Check {
    private static int wrong = 0;
    private static String sentence = "";

    private Check() {
    }

    /**
     * The test of one sentence of the document. What it throws is a wrong answer too, so that the
     * sentences after it are tested all the same.
     */
    static void sentence(String words, Runnable test) {
        int before = wrong;
        sentence = words;
        try {
            test.run();
        } catch (RuntimeException | StackOverflowError thrown) {
            wrong(thrown.toString());
        }
        sentence = "";
        if (wrong != before) {
            System.out.println("BROKEN: " + words);
        }
    }

    static void due(String call, long got, long want) {
        if (got != want) {
            wrong(call + " answered " + got + ", due is " + want);
        }
    }

    static void due(String call, boolean got, boolean want) {
        due(call, got ? 1 : 0, want ? 1 : 0);
    }

    static void due(String what, String got, String want) {
        if (!got.equals(want)) {
            wrong(what + " is\n  " + got + "\ndue is\n  " + want);
        }
    }

    private static void wrong(String told) {
        wrong++;
        System.out.println(sentence.isEmpty() ? told : told + " (" + sentence + ")");
    }

    /** Puts rows, told as key, value, key, value, ..., and stores them. */
    static BlockExecutor fill(BlockExecutor x, int slot, int... rows) {
        for (int i = 0; i < rows.length; i += 2) {
            due("put", x.put(rows[i], rows[i + 1]), true);
        }
        due("store(" + slot + ")", x.store(slot), rows.length / 2);
        return x;
    }

    /** Stores rows 0:0, 1:1, ... */
    static BlockExecutor fillCounting(BlockExecutor x, int slot, int rows) {
        for (int i = 0; i < rows; i++) {
            due("put", x.put(i, i), true);
        }
        due("store(" + slot + ")", x.store(slot), rows);
        return x;
    }

    /** Stores the same row so many times. */
    static BlockExecutor fillSame(BlockExecutor x, int slot, int rows, int key, int value) {
        for (int i = 0; i < rows; i++) {
            due("put", x.put(key, value), true);
        }
        due("store(" + slot + ")", x.store(slot), rows);
        return x;
    }

    static void dueTable(BlockExecutor x, int slot, int... rows) {
        due("rows(" + slot + ")", x.rows(slot), rows.length / 2);
        for (int place = 0; 2 * place < rows.length; place++) {
            due("key(" + slot + ", " + place + ")", x.key(slot, place), rows[2 * place]);
            due("value(" + slot + ", " + place + ")", x.value(slot, place), rows[2 * place + 1]);
        }
    }

    /** What the calls have cost since the transfers were so many. */
    static void dueCost(String call, BlockExecutor x, long before, long want) {
        due("the cost of " + call, x.transfers() - before, want);
    }

    /** All that can be looked at: the tables with their rows, the blocks and the transfers. */
    static String picture(BlockExecutor x) {
        StringBuilder seen = new StringBuilder();
        for (int slot = 0; slot < 8; slot++) {
            int rows = x.rows(slot);
            seen.append(slot).append(" has ").append(rows).append(':');
            for (int place = 0; place < rows; place++) {
                seen.append(' ').append(x.key(slot, place)).append(':').append(x.value(slot, place));
            }
            seen.append("; ");
        }
        return seen + "blocks " + x.blocks() + "; transfers " + x.transfers();
    }

    static void end() {
        System.out.println(wrong == 0 ? "all answers are as due" : wrong + " answers are not as due");
        if (wrong != 0) {
            System.exit(1);
        }
    }
}
