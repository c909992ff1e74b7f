import java.util.ArrayList;
import java.util.List;

/**
 * What an object of the class should hold, in Java's own arrays and numbers: a COLUMN is an array, its
 * FAULTS are what Java throws. It reads no texts; queries come to it as code.
 */
final class Model {
    static final long LOST = Long.MIN_VALUE;

    /** A query: PARTS of ACTS, as Trees has them, with the REALS' values in them. */
    static final class Query {
        String verb = "", how = "";
        /** Of the sum of how as it stands in the text: 1 I, 2 J, 3 F, 4 D. */
        int kind = 2;
        boolean down;
        int first = Integer.MAX_VALUE;
        final List<List<int[]>> parts = List.of(new ArrayList<>(), new ArrayList<>(), new ArrayList<>());
    }

    private static final class Hit {
        int object, many;
        double score;
        long key, whole;
        Object value;
    }

    int objects, fault;
    final Object[] columns = new Object[10];
    final List<Query> queries = new ArrayList<>();
    private final int[] told = {0, -1, -1, 0, 0, -1};
    private final List<Hit> hits = new ArrayList<>();
    private boolean groups;
    private int act, done;

    static Object newRow(int lane, int n) {
        switch (lane) {
            case 0: return new boolean[n];
            case 1: return new byte[n];
            case 2: return new short[n];
            case 3: return new char[n];
            case 4: return new int[n];
            case 5: return new long[n];
            case 6: return new float[n];
            default: return new double[n];
        }
    }

    static int lane(Object row) {
        if (row == null) return -1;
        return List.of("[Z", "[B", "[S", "[C", "[I", "[J", "[F", "[D").indexOf(row.getClass().getName());
    }

    /** As T and I an Integer. */
    static Object get(Object row, int lane, int i) {
        switch (lane) {
            case 0: return ((boolean[]) row)[i] ? 1 : 0;
            case 1: return (int) ((byte[]) row)[i];
            case 2: return (int) ((short[]) row)[i];
            case 3: return (int) ((char[]) row)[i];
            case 4: return ((int[]) row)[i];
            case 5: return ((long[]) row)[i];
            case 6: return ((float[]) row)[i];
            default: return ((double[]) row)[i];
        }
    }

    static void set(Object row, int lane, int i, Object v) {
        switch (lane) {
            case 0: ((boolean[]) row)[i] = (Integer) v == 1; break;
            case 1: ((byte[]) row)[i] = (byte) (int) (Integer) v; break;
            case 2: ((short[]) row)[i] = (short) (int) (Integer) v; break;
            case 3: ((char[]) row)[i] = (char) (int) (Integer) v; break;
            case 4: ((int[]) row)[i] = (Integer) v; break;
            case 5: ((long[]) row)[i] = (Long) v; break;
            case 6: ((float[]) row)[i] = (Float) v; break;
            default: ((double[]) row)[i] = (Double) v; break;
        }
    }

    static long bits(Object v) {
        if (v instanceof Float) return Float.floatToRawIntBits((Float) v);
        return v instanceof Double ? Double.doubleToRawLongBits((Double) v) : ((Number) v).longValue();
    }

    static int cells(Object row) {
        return row == null ? -1 : java.lang.reflect.Array.getLength(row);
    }

    int put(int c, int i, long v) {
        if (columns[c] == null) return -3;
        int lane = lane(columns[c]);
        if (i < 0 || i >= cells(columns[c])) return -1;
        if (lane == 6 && Float.isNaN(Float.intBitsToFloat((int) v))) return -1;
        if (lane == 7 && Double.isNaN(Double.longBitsToDouble(v))) return -1;
        Object told = lane == 0 ? (Object) (v != 0 ? 1 : 0) : lane < 5 ? (Object) (int) v : lane == 5 ? (Object) v
            : lane == 6 ? (Object) Float.intBitsToFloat((int) v) : (Object) Double.longBitsToDouble(v);
        set(columns[c], lane, i, told);
        return 1;
    }

    void clear() {
        queries.clear();
        begin(-1);
    }

    private void begin(int q) {
        hits.clear();
        groups = false;
        done = 0;
        int[] none = {0, -1, -1, 0, 0, q};
        System.arraycopy(none, 0, told, 0, 6);
    }

    private static int faultOf(RuntimeException e) {
        if (e instanceof Trees.Failed) return ((Trees.Failed) e).fault;
        if (e instanceof NullPointerException) return 1;
        if (e instanceof ArrayIndexOutOfBoundsException) return 2;
        if (e instanceof ClassCastException) return 3;
        if (e instanceof ArithmeticException) return 4;
        throw e;
    }

    private Object[] copies() {
        Object[] kept = new Object[10];
        for (int c = 0; c < 10; c++) {
            if (columns[c] == null) continue;
            kept[c] = newRow(lane(columns[c]), cells(columns[c]));
            System.arraycopy(columns[c], 0, kept[c], 0, cells(columns[c]));
        }
        return kept;
    }

    int run(int q) {
        Query query = queries.get(q);
        begin(q);
        groups = query.verb.equals("fold");
        Object[] kept = copies();
        if (groups && query.parts.get(2).isEmpty()) group(query, 0);
        for (int object = 0; object < objects; object++) {
            int part = 0;
            try {
                Object[] laid = new Object[3];
                boolean passed = false;
                for (part = 0; part < 3 && !passed; part++) {
                    if (query.parts.get(part).isEmpty()) continue;
                    laid[part] = perform(query.parts.get(part), object);
                    passed = part == 0 && (Integer) laid[0] == 0;
                }
                act = 0;
                if (!passed) hit(query, object, laid);
            } catch (RuntimeException e) {
                int[] failed = {faultOf(e), part, act, done, 0, q};
                System.arraycopy(failed, 0, told, 0, 6);
                hits.clear();
                for (int c = 0; c < 10; c++) if (kept[c] != null) System.arraycopy(kept[c], 0, columns[c], 0, cells(kept[c]));
                return -10 - object;
            }
        }
        finish(query);
        told[3] = done;
        told[4] = hits.size();
        return hits.size();
    }

    private void finish(Query query) {
        if (query.verb.equals("find")) {
            // A list is sorted so that likes keep their order; 0.0 and -0.0 are likes.
            hits.sort((a, b) -> (query.down ? -1 : 1) * (a.score < b.score ? -1 : a.score > b.score ? 1 : 0));
            while (hits.size() > query.first) hits.remove(hits.size() - 1);
        }
        for (Hit h : hits) if (query.how.equals("mean") && h.many > 0) h.value = (Double) h.value / h.many;
    }

    private Hit group(Query query, long key) {
        for (Hit h : hits) if (h.key == key) return h;
        if (hits.size() == 8) throw new Trees.Failed(6);
        Hit h = new Hit();
        h.key = key;
        boolean real = query.how.equals("mean") || query.how.equals("sum") && query.kind > 2;
        h.value = real ? (Object) 0.0 : (Object) 0L;
        hits.add(h);
        return h;
    }

    private void hit(Query query, int object, Object[] laid) {
        if (!query.verb.equals("fold")) {
            Hit h = new Hit();
            h.object = object;
            if (query.verb.equals("find") && laid[1] != null) h.score = (Double) laid[1];
            hits.add(h);
            return;
        }
        Hit h = group(query, laid[2] == null ? 0 : ((Number) laid[2]).longValue());
        if (query.how.equals("count")) h.value = (Long) h.value + 1;
        else if (h.value instanceof Double && !isExtreme(query)) h.value = number((Double) h.value + (Double) laid[1]);
        else if (!isExtreme(query)) h.value = (Long) h.value + (Long) laid[1];
        else h.value = h.many == 0 ? laid[1] : extreme(query.how.equals("min"), h.value, laid[1]);
        h.many++;
    }

    private static boolean isExtreme(Query query) {
        return query.how.equals("min") || query.how.equals("max");
    }

    private static Object extreme(boolean min, Object a, Object b) {
        if (a instanceof Float) return min ? Math.min((Float) a, (Float) b) : Math.max((Float) a, (Float) b);
        if (a instanceof Double) return min ? Math.min((Double) a, (Double) b) : Math.max((Double) a, (Double) b);
        if (a instanceof Integer) return min ? Math.min((Integer) a, (Integer) b) : Math.max((Integer) a, (Integer) b);
        return min ? Math.min((Long) a, (Long) b) : Math.max((Long) a, (Long) b);
    }

    private static Object number(double v) {
        if (v != v) throw new Trees.Failed(5);
        return v;
    }

    private static Object number(float v) {
        if (v != v) throw new Trees.Failed(5);
        return v;
    }

    /** What lies on the PILE at its end; null of set. */
    private Object perform(List<int[]> code, int object) {
        ArrayList<Object> pile = new ArrayList<>();
        int next;
        for (act = 0; act < code.size(); act = next) {
            int[] a = code.get(act);
            next = act + 1;
            if (a[0] == 1802) next = a[1];
            else if (a[0] >= 1800 && a[0] < 1802) next = (Integer) pop(pile) == a[0] - 1800 ? a[1] : next;
            else if (a[0] == 3) pile.add(object);
            else if (a[0] >= 20 && a[0] < 30) {
                Object v = pop(pile);
                set(columns[a[1]], a[0] - 20, (Integer) pop(pile), v);
            } else pile.add(laid(a, pile));
            done++;
        }
        return pile.isEmpty() ? null : pop(pile);
    }

    private static Object pop(ArrayList<Object> pile) {
        return pile.remove(pile.size() - 1);
    }

    private Object laid(int[] a, ArrayList<Object> pile) {
        int op = a[0];
        if (op == 1) return a[1];
        if (op == 2) return (double) a[2] / (double) a[3];
        Object v = pop(pile);
        if (op < 20) return get(columns[a[1]], op - 10, (Integer) v);
        if (op < 1200 || op > 1400 && op < 1500) return two(op / 100, pop(pile), v);
        if (op > 1750 && op < 1770) return extreme(op < 1760, pop(pile), v);
        if (op < 1300) return less(v);
        if (op < 1400) return v instanceof Integer ? (Object) ~(Integer) v : (Object) ~(Long) v;
        if (op < 1600) return judged(op - 1500, (Integer) v) ? 1 : 0;
        if (op < 1650) return become(op % 10, (Number) v);
        if (op < 1700) return op == 1651 ? (int) (byte) (int) v : op == 1652 ? (int) (short) (int) v : (int) (char) (int) v;
        if (op == 1810) return 1 - (Integer) v;
        return function(op, v);
    }

    private static Object function(int op, Object v) {
        if (op == 1701) return Math.abs((Integer) v);
        if (op == 1702) return Math.abs((Long) v);
        if (op == 1703) return Math.abs((Float) v);
        if (op == 1704) return Math.abs((Double) v);
        if (op == 1714) return Math.floor((Double) v);
        if (op == 1724) return Math.ceil((Double) v);
        if (op == 1734) return Math.rint((Double) v);
        return op == 1743 ? (Object) Math.signum((Float) v) : (Object) Math.signum((Double) v);
    }

    private static Object less(Object v) {
        if (v instanceof Integer) return -(Integer) v;
        if (v instanceof Long) return -(Long) v;
        return v instanceof Float ? (Object) (-(Float) v) : (Object) (-(Double) v);
    }

    private static boolean judged(int r, int v) {
        return new boolean[] {v == 0, v != 0, v < 0, v > 0, v <= 0, v >= 0}[r];
    }

    private static Object become(int kind, Number v) {
        if (kind == 1) return v instanceof Float ? (int) (float) (Float) v : v instanceof Double ? (int) (double) (Double) v : (int) (long) (Long) v;
        if (kind == 2) return v instanceof Float ? (long) (float) (Float) v : v instanceof Double ? (long) (double) (Double) v : (long) (int) (Integer) v;
        if (kind == 3) return v instanceof Double ? (float) (double) (Double) v : v instanceof Long ? (float) (long) (Long) v : (float) (int) (Integer) v;
        return v instanceof Float ? (double) (float) (Float) v : v instanceof Long ? (double) (long) (Long) v : (double) (int) (Integer) v;
    }

    private static Object two(int group, Object x, Object y) {
        if (x instanceof Integer) return ofInts(group, (Integer) x, (Integer) y);
        if (x instanceof Long) return ofLongs(group, (Long) x, ((Number) y).longValue());
        if (x instanceof Float) {
            float a = (Float) x, b = (Float) y;
            if (group == 14) return a < b ? -1 : a > b ? 1 : 0;
            return number(group == 1 ? a + b : group == 2 ? a - b : group == 3 ? a * b : group == 4 ? a / b : a % b);
        }
        double a = (Double) x, b = (Double) y;
        if (group == 14) return a < b ? -1 : a > b ? 1 : 0;
        return number(group == 1 ? a + b : group == 2 ? a - b : group == 3 ? a * b : group == 4 ? a / b : a % b);
    }

    private static Object ofInts(int group, int a, int b) {
        switch (group) {
            case 1: return a + b;
            case 2: return a - b;
            case 3: return a * b;
            case 4: return a / b;
            case 5: return a % b;
            case 6: return a & b;
            case 7: return a | b;
            case 8: return a ^ b;
            case 9: return a << b;
            case 10: return a >> b;
            case 11: return a >>> b;
            default: return Integer.compare(a, b);
        }
    }

    private static Object ofLongs(int group, long a, long b) {
        switch (group) {
            case 1: return a + b;
            case 2: return a - b;
            case 3: return a * b;
            case 4: return a / b;
            case 5: return a % b;
            case 6: return a & b;
            case 7: return a | b;
            case 8: return a ^ b;
            case 9: return a << b;
            case 10: return a >> b;
            case 11: return a >>> b;
            default: return Long.compare(a, b);
        }
    }

    /** As Calls.state tells it of an object. */
    String state() {
        int there = 0;
        for (Object row : columns) if (row != null) there++;
        StringBuilder s = new StringBuilder("counts " + objects + " " + there + " " + queries.size() + " 0");
        for (int c = 0; c < 10; c++) {
            int least = 0;
            while (columns[least] != columns[c]) least++;
            s.append(", $").append(c).append(' ').append(lane(columns[c])).append(' ').append(cells(columns[c])).append(' ').append(least);
            for (int i = 0; i < cells(columns[c]); i++) s.append(i == 0 ? ": " : " ").append(bits(get(columns[c], lane(columns[c]), i)));
        }
        s.append(", fault ").append(fault).append(", run");
        for (int t : told) s.append(' ').append(t);
        for (Hit h : hits) {
            s.append(", hit ").append(groups ? h.many : h.object).append(' ');
            s.append(groups ? h.key : bits(h.score)).append(' ').append(groups ? bits(h.value) : LOST);
        }
        for (Query q : queries) s.append(", code ").append(code(q, 0)).append("; ").append(code(q, 1)).append("; ").append(code(q, 2));
        return s.toString();
    }

    private static String code(Query query, int part) {
        StringBuilder s = new StringBuilder();
        for (int[] a : query.parts.get(part)) {
            if (s.length() > 0) s.append(' ');
            s.append(a[0]);
            if (a[1] != 0) s.append(':').append(a[1]);
        }
        return s.toString();
    }
}
