import java.util.Random;

/**
 * Random runs, always the same ones, compared with the plain model. A run makes at most 512 calls,
 * as nothing is promised about later ones; its last calls look at the rows that it left.
 */
public final class ModelTest {
    private static final int RUNS = 12000;
    private static final int MOST_CALLS = 512;
    private static final int WORKING_CALLS = 320;
    private static final int[] SPREADS = {2, 4, 8, 16, 40, 100, 1000};
    private static final int[] EXTREMES = {
        Integer.MIN_VALUE, Integer.MIN_VALUE + 1, -1, 0, 1, Integer.MAX_VALUE - 1, Integer.MAX_VALUE,
    };

    private final int run;
    private final Random random;
    private final BlockExecutor x;
    private final PlainModel model;
    private final int spread;
    private final int distance;
    private int calls = 0;

    private ModelTest(int run) {
        this.run = run;
        random = new Random(run);
        int frames = run % 5 == 4 ? random.nextInt(20) - 5 : 3 + run % 4;
        x = new BlockExecutor(frames);
        model = new PlainModel(frames);
        spread = SPREADS[random.nextInt(SPREADS.length)];
        // Different numbers that have the same digits: their rows stay in one part to the last level.
        distance = random.nextInt(3) == 0 ? 8 * 27 * 64 * 125 : 1;
    }

    public static void main(String[] args) {
        for (int run = 0; run < RUNS; run++) {
            ModelTest test = new ModelTest(run);
            while (test.calls < WORKING_CALLS) {
                test.work();
            }
            test.lookAtAll();
        }
        Check.end();
    }

    private void work() {
        int from = slot();
        int other = slot();
        int into = slot();
        switch (random.nextInt(16)) {
            case 0, 1, 2 -> fill(into);
            case 3, 4, 5 -> due("drop", x.drop(from), model.drop(from));
            case 6, 7 -> {
                int order = random.nextInt(20) == 0 ? number() : random.nextInt(3);
                due("sort", x.sort(from, order, into), model.sort(from, order, into));
            }
            case 8 -> {
                int low = number();
                int high = number();
                due("select", x.select(from, low, high, into), model.select(from, low, high, into));
            }
            case 9 -> due("distinct", x.distinct(from, into), model.distinct(from, into));
            case 10, 11 -> due("group", x.group(from, into), model.group(from, into));
            case 12, 13 -> {
                int kind = random.nextInt(20) == 0 ? number() : random.nextInt(4);
                due("combine", x.combine(kind, from, other, into), model.combine(kind, from, other, into));
            }
            default -> due("join", x.join(from, other, into), model.join(from, other, into));
        }
        due("transfers", x.transfers(), model.transfers());
        due("blocks", x.blocks(), model.blocks());
        look(into, random.nextInt(64) - 2);
    }

    private void fill(int into) {
        // Sometimes more than the input takes.
        int rows = random.nextInt(4) == 0 ? 50 + random.nextInt(12) : random.nextInt(24);
        for (int i = 0; i < rows; i++) {
            int key = number();
            int value = number();
            due("put", x.put(key, value) ? 1 : 0, model.put(key, value) ? 1 : 0);
        }
        due("store", x.store(into), model.store(into));
    }

    private void look(int slot, int place) {
        due("key", x.key(slot, place), model.key(slot, place));
        due("value", x.value(slot, place), model.value(slot, place));
    }

    private void lookAtAll() {
        int first = random.nextInt(8);
        for (int i = 0; i < 8; i++) {
            int slot = (first + i) % 8;
            int rows = Math.max(model.rows(slot), 0);
            if (calls + 1 + 2 * rows > MOST_CALLS) {
                break;
            }
            due("rows", x.rows(slot), model.rows(slot));
            for (int place = 0; place < rows; place++) {
                look(slot, place);
            }
        }
    }

    private void due(String call, long got, long want) {
        calls++;
        if (got != want) {
            Check.due("run " + run + ", call " + calls + ", " + call, got, want);
        }
    }

    private int slot() {
        return random.nextInt(40) == 0 ? random.nextInt(12) - 2 : random.nextInt(8);
    }

    private int number() {
        if (random.nextInt(50) == 0) {
            return EXTREMES[random.nextInt(EXTREMES.length)];
        }
        return (random.nextInt(spread) - spread / 3) * distance;
    }
}
