import java.util.ArrayList;
import java.util.Comparator;
import java.util.LinkedHashMap;
import java.util.List;
import java.util.Map;
import java.util.TreeMap;

/** The document said once more with lists and maps, for the program to be compared with. */
final class PlainModel {
    private static final int BAD = -1;
    private static final int ABSENT = -2;
    private static final int TAKEN = -3;
    private static final int FULL = -4;

    record Row(int key, int value) {
    }

    private static final Comparator<Row> BY_KEY = Comparator.comparingInt(Row::key);
    private static final Comparator<Row> BY_VALUE = Comparator.comparingInt(Row::value);
    private static final Comparator<Row> BY_BOTH = BY_KEY.thenComparing(BY_VALUE);

    private final int m;
    private final Map<Integer, List<Row>> tables = new TreeMap<>();
    private List<Row> input = new ArrayList<>();
    private long transfers = 0;

    PlainModel(int frames) {
        m = frames < 3 ? 3 : frames > 6 ? 6 : frames;
    }

    boolean put(int key, int value) {
        return input.size() < 60 && input.add(new Row(key, value));
    }

    int store(int into) {
        if (!slot(into)) {
            return BAD;
        }
        if (tables.containsKey(into)) {
            return TAKEN;
        }
        tables.put(into, input);
        transfers += size(input);
        input = new ArrayList<>();
        return tables.get(into).size();
    }

    int drop(int slot) {
        if (!slot(slot)) {
            return BAD;
        }
        List<Row> table = tables.remove(slot);
        return table == null ? ABSENT : table.size();
    }

    int rows(int slot) {
        return tables.containsKey(slot) ? tables.get(slot).size() : -1;
    }

    int key(int slot, int place) {
        return place >= 0 && place < rows(slot) ? tables.get(slot).get(place).key() : 0;
    }

    int value(int slot, int place) {
        return place >= 0 && place < rows(slot) ? tables.get(slot).get(place).value() : 0;
    }

    int sort(int from, int order, int into) {
        int refusal = refusal(order >= 0 && order <= 2, into, from);
        if (refusal != 0) {
            return refusal;
        }
        List<Row> made = new ArrayList<>(tables.get(from));
        made.sort(order == 0 ? BY_KEY : order == 1 ? BY_VALUE : BY_BOTH);
        return keep(into, made, sortCost(made));
    }

    int select(int from, int low, int high, int into) {
        int refusal = refusal(true, into, from);
        if (refusal != 0) {
            return refusal;
        }
        List<Row> made = new ArrayList<>(tables.get(from));
        made.removeIf(row -> row.key() < low || row.key() > high);
        return keep(into, made, size(tables.get(from)) + size(made));
    }

    int distinct(int from, int into) {
        int refusal = refusal(true, into, from);
        if (refusal != 0) {
            return refusal;
        }
        List<Row> table = tables.get(from);
        List<Row> made = new ArrayList<>(table.stream().distinct().sorted(BY_BOTH).toList());
        return keep(into, made, sortCost(table) + size(table) + size(made));
    }

    int group(int from, int into) {
        int refusal = refusal(true, into, from);
        if (refusal != 0) {
            return refusal;
        }
        List<Row> made = new ArrayList<>();
        List<Row> left = tables.get(from);
        long cost = 0;
        while (!left.isEmpty()) {
            Map<Integer, Integer> sums = new LinkedHashMap<>();
            List<Row> written = new ArrayList<>();
            for (Row row : left) {
                if (sums.containsKey(row.key()) || sums.size() < 4 * (m - 2)) {
                    sums.merge(row.key(), row.value(), Integer::sum);
                } else {
                    written.add(row);
                }
            }
            sums.forEach((key, sum) -> made.add(new Row(key, sum)));
            cost += size(left) + size(written);
            left = written;
        }
        return keep(into, made, cost + size(made));
    }

    int combine(int kind, int a, int b, int into) {
        int refusal = refusal(kind >= 0 && kind <= 3, into, a, b);
        if (refusal != 0) {
            return refusal;
        }
        TreeMap<Row, int[]> counts = new TreeMap<>(BY_BOTH);
        tables.get(a).forEach(row -> counts.computeIfAbsent(row, r -> new int[2])[0]++);
        tables.get(b).forEach(row -> counts.computeIfAbsent(row, r -> new int[2])[1]++);
        List<Row> made = new ArrayList<>();
        counts.forEach((row, nm) -> {
            int n = nm[0];
            int m = nm[1];
            int times = kind == 0 ? (n > m ? n : m) : kind == 1 ? (n < m ? n : m) : kind == 2 ? n - m : n + m;
            for (int i = 0; i < times; i++) {
                made.add(row);
            }
        });
        long cost = sortCost(tables.get(a)) + sortCost(tables.get(b));
        return keep(into, made, cost + size(tables.get(a)) + size(tables.get(b)) + size(made));
    }

    int join(int a, int b, int into) {
        int refusal = refusal(true, into, a, b);
        if (refusal != 0) {
            return refusal;
        }
        List<Row> made = new ArrayList<>();
        long cost = joinLists(tables.get(a), tables.get(b), 0, made);
        return keep(into, made, cost + size(made));
    }

    long transfers() {
        return transfers;
    }

    int blocks() {
        return tables.values().stream().mapToInt(PlainModel::size).sum();
    }

    private long joinLists(List<Row> a, List<Row> b, int level, List<Row> made) {
        if (a.isEmpty() || b.isEmpty()) {
            return 0;
        }
        int chunk = 4 * (m - 2);
        long cost = size(b);
        if (b.size() <= chunk || level == 3) {
            for (int start = 0; start < b.size(); start += chunk) {
                cost += size(a);
                for (Row left : a) {
                    for (Row right : b.subList(start, Math.min(b.size(), start + chunk))) {
                        if (left.value() == right.key()) {
                            made.add(new Row(left.key(), right.value()));
                        }
                    }
                }
            }
            return cost;
        }
        cost += size(a);
        for (int part = 0; part < m - 1; part++) {
            int number = part;
            List<Row> partOfA = a.stream().filter(row -> digit(row.value(), level) == number).toList();
            List<Row> partOfB = b.stream().filter(row -> digit(row.key(), level) == number).toList();
            cost += size(partOfA) + size(partOfB) + joinLists(partOfA, partOfB, level + 1, made);
        }
        return cost;
    }

    private int digit(int number, int digit) {
        int f = m - 1;
        long cube = (long) f * f * f;
        long rest = ((number % cube) + cube) % cube;
        String written = "00" + Long.toString(rest, f);
        return written.charAt(written.length() - 1 - digit) - '0';
    }

    private static boolean slot(int slot) {
        return slot >= 0 && slot <= 7;
    }

    private int refusal(boolean inRange, int into, int... from) {
        boolean slots = slot(into);
        boolean present = true;
        for (int slot : from) {
            slots = slots && slot(slot);
            present = present && tables.containsKey(slot);
        }
        if (!slots || !inRange) {
            return BAD;
        }
        return !present ? ABSENT : tables.containsKey(into) ? TAKEN : 0;
    }

    private int keep(int into, List<Row> made, long cost) {
        if (made.size() > 60) {
            return FULL;
        }
        tables.put(into, made);
        transfers += cost;
        return made.size();
    }

    private static int size(List<Row> rows) {
        return (int) Math.ceil(rows.size() / 4.0);
    }

    private long sortCost(List<Row> rows) {
        int b = size(rows);
        if (b == 0) {
            return 0;
        }
        int p = 0;
        for (int r = (int) Math.ceil(b / (double) m); r != 1; r = (int) Math.ceil(r / (m - 1.0))) {
            p++;
        }
        return 2L * b * (1 + p);
    }
}
