import java.util.ArrayList;
import java.util.List;
import java.util.Random;

/**
 * Random sums as trees over COLUMNS that are told: from each tree come its text, its ACTS, its
 * PILE, how many it has open, and what Java itself answers.
 */
final class Trees {
    /** The levels of the grammar: sum, or, and, not, test, mix, shift, plus, times, sign, part. */
    static final int SUM = 0, OR = 1, AND = 2, NOT = 3, TEST = 4, MIX = 5, SHIFT = 6, PLUS = 7, TIMES = 8, SIGN = 9, PART = 10;
    private static final String[] SIGNS = {"+", "-", "*", "/", "%", "&", "|", "^", "<<", ">>", ">>>"};
    private static final int[] LEVELS = {PLUS, PLUS, TIMES, TIMES, TIMES, MIX, MIX, MIX, SHIFT, SHIFT, SHIFT};
    private static final String[] TESTS = {"=", "!=", "<", ">", "<=", ">="};
    private static final String[] CASTS = {"byte", "short", "char", "int", "long", "float", "double"};

    /** What Java would throw. */
    static final class Failed extends RuntimeException {
        private static final long serialVersionUID = 1;
        final int fault;

        Failed(int fault) {
            super(null, null, false, false);
            this.fault = fault;
        }
    }

    interface Meaning {
        Object of(int object);
    }

    /** An ACT is its op and its a; that of a REAL has its whole number and what that is divided by, too. */
    static final class Node {
        int kind, level, open, pile;
        String text;
        final List<int[]> code = new ArrayList<>();
        Meaning meaning;
    }

    private final Random random;
    /** Of each COLUMN its LANE, or -1. */
    private final int[] lanes;
    /** Of each COLUMN its CELLS, as Java has them. */
    private final Object[][] cells;

    Trees(Random random, int[] lanes, Object[][] cells) {
        this.random = random;
        this.lanes = lanes;
        this.cells = cells;
    }

    static int kindOf(int lane) {
        return lane == 0 ? 0 : lane <= 4 ? 1 : lane - 3;
    }

    Node node(int kind, int depth) {
        if (depth <= 0) return leaf(kind);
        int pick = random.nextInt(10);
        if (pick == 0) return leaf(kind);
        if (pick == 1) return choice(kind, depth);
        if (kind == 0) return truth(depth);
        if (pick == 2) return signed(kind, depth);
        if (pick <= 4) return function(kind, depth);
        return pair(kind, depth);
    }

    private static Node part(String text, int kind, Meaning meaning, int[]... code) {
        Node n = new Node();
        n.kind = kind;
        n.level = PART;
        n.text = text;
        n.pile = 1;
        n.meaning = meaning;
        for (int[] act : code) n.code.add(act);
        return n;
    }

    private Node leaf(int kind) {
        int column = columnOf(kind), pick = random.nextInt(5);
        if (kind == 0 && (pick == 0 || column < 0)) {
            boolean yes = random.nextBoolean();
            return part(yes ? "yes" : "no", 0, o -> yes, new int[] {1, yes ? 1 : 0});
        }
        if (kind == 1 && (pick < 2 || column < 0)) return whole();
        if (kind == 4 && (pick < 2 || column < 0)) return real();
        if (column < 0) return castOf(kind + 2, kind, leaf(1));
        int[] load = {10 + lanes[column], column};
        if (random.nextInt(3) == 0) return indexed(column, kind, load);
        return part("$" + column, kind, o -> cellAt(column, o), new int[] {3, 0}, load);
    }

    /** Some COLUMN whose CELLS are of a KIND, or -1. */
    private int columnOf(int kind) {
        int start = random.nextInt(lanes.length);
        for (int i = 0; i < lanes.length; i++) {
            int column = (start + i) % lanes.length;
            if (lanes[column] >= 0 && kindOf(lanes[column]) == kind) return column;
        }
        return -1;
    }

    private Node whole() {
        if (random.nextInt(3) > 0) return part("row", 1, o -> o, new int[] {3, 0});
        int v = random.nextInt(5) == 0 ? random.nextInt(Integer.MAX_VALUE) : random.nextInt(7);
        return part((random.nextInt(9) == 0 ? "00" : "") + v, 1, o -> v, new int[] {1, v});
    }

    private Node real() {
        int behind = 1 + random.nextInt(3), divisor = (int) Math.pow(10, behind);
        int whole = random.nextInt(random.nextInt(4) == 0 ? 999999 : 5 * divisor);
        String text = whole / divisor + "." + String.valueOf(divisor + whole % divisor).substring(1);
        return part(text, 4, o -> (double) whole / divisor, new int[] {2, 0, whole, divisor});
    }

    private Node indexed(int column, int kind, int[] load) {
        Node index = random.nextInt(4) == 0 ? node(1, 1) : number(random.nextInt(cells[column].length + 1));
        int[] open = {0};
        Node n = part("$" + column + blank() + "[" + within(index, SUM, open) + "]", kind,
            o -> cellAt(column, (Integer) index.meaning.of(o)));
        n.open = open[0] + 1;
        n.pile = index.pile;
        addCode(n, index);
        n.code.add(load);
        return n;
    }

    private Node number(int v) {
        return part("" + v, 1, o -> v, new int[] {1, v});
    }

    private Object cellAt(int column, int i) {
        if (i < 0 || i >= cells[column].length) throw new Failed(2);
        return cells[column][i];
    }

    /** Its text where a part of this level stands, in ( ) where it must be, or may be. */
    private String within(Node n, int level, int[] open) {
        boolean wrap = n.level < level || random.nextInt(12) == 0;
        open[0] = Math.max(open[0], n.open + (wrap ? 1 : 0));
        return wrap ? "(" + n.text + ")" : n.text;
    }

    private String blank() {
        return random.nextInt(4) == 0 ? " " : "";
    }

    /** Code of others goes behind that of its own: jumps move; REALS are counted when all is told. */
    private static void addCode(Node to, Node from) {
        int base = to.code.size();
        for (int[] act : from.code) {
            boolean jump = act[0] >= 1800 && act[0] <= 1802;
            int[] moved = act.clone();
            if (jump) moved[1] += base;
            to.code.add(moved);
        }
    }

    private static void addConverted(Node to, Node from, int kind) {
        addCode(to, from);
        if (from.kind != kind) act(to, 1600 + 10 * from.kind + kind, 0);
    }

    private static int[] act(Node to, int op, int a) {
        int[] act = {op, a};
        to.code.add(act);
        return act;
    }

    private Node choice(int kind, int depth) {
        int first = kind, second = kind;
        if (kind > 0 && random.nextBoolean()) first = 1 + random.nextInt(kind);
        else if (kind > 0) second = 1 + random.nextInt(kind);
        Node c = node(0, depth - 1), a = node(first, depth - 1), b = node(second, depth - 1);
        Node n = new Node();
        int[] open = {0}, deeper = {0};
        n.kind = kind;
        n.level = SUM;
        n.text = within(c, OR, open) + " ? " + within(a, SUM, deeper) + blank() + ": " + within(b, SUM, deeper);
        n.open = Math.max(open[0], deeper[0] + 1);
        n.pile = Math.max(c.pile, Math.max(a.pile, b.pile));
        addCode(n, c);
        int[] no = act(n, 1800, 0);
        addConverted(n, a, kind);
        int[] end = act(n, 1802, 0);
        no[1] = n.code.size();
        addConverted(n, b, kind);
        end[1] = n.code.size();
        n.meaning = o -> (Boolean) c.meaning.of(o) ? become(a.meaning.of(o), kind) : become(b.meaning.of(o), kind);
        return n;
    }

    private Node truth(int depth) {
        int pick = random.nextInt(6);
        if (pick == 0) return negation(depth);
        if (pick <= 2) return decision(pick == 1, depth);
        if (pick == 3) return truths(depth);
        return test(depth);
    }

    private Node negation(int depth) {
        Node a = node(0, depth - 1), n = new Node();
        int[] open = {0};
        n.level = NOT;
        n.text = "not " + within(a, NOT, open);
        n.open = open[0] + 1;
        n.pile = a.pile;
        addCode(n, a);
        act(n, 1810, 0);
        n.meaning = o -> !(Boolean) a.meaning.of(o);
        return n;
    }

    private Node decision(boolean or, int depth) {
        Node a = node(0, depth - 1), b = node(0, depth - 1), n = new Node();
        int[] open = {0};
        n.level = or ? OR : AND;
        n.text = within(a, n.level, open) + (or ? " or " : " and ") + within(b, n.level + 1, open);
        n.open = open[0];
        n.pile = Math.max(a.pile, b.pile);
        addCode(n, a);
        int[] known = act(n, or ? 1801 : 1800, 0);
        addCode(n, b);
        int[] end = act(n, 1802, 0);
        known[1] = n.code.size();
        act(n, 1, or ? 1 : 0);
        end[1] = n.code.size();
        n.meaning = o -> (Boolean) a.meaning.of(o) == or ? or : (Boolean) b.meaning.of(o);
        return n;
    }

    private Node truths(int depth) {
        Node a = node(0, depth - 1), b = node(0, depth - 1), n = new Node();
        int pick = random.nextInt(5);
        n.level = pick < 3 ? MIX : TEST;
        join(n, a, b, pick < 3 ? SIGNS[5 + pick] : TESTS[pick - 3]);
        addCode(n, a);
        addCode(n, b);
        act(n, pick < 3 ? 601 + 100 * pick : 1401, 0);
        if (pick >= 3) act(n, 1500 + pick - 3, 0);
        n.meaning = o -> {
            boolean x = (Boolean) a.meaning.of(o), y = (Boolean) b.meaning.of(o);
            return pick == 0 ? x & y : pick == 1 ? x | y : pick == 3 ? x == y : x != y;
        };
        return n;
    }

    private void join(Node n, Node a, Node b, String sign) {
        int[] open = {0};
        // A test isn't joined to another one, so both its sides are of the level behind.
        int left = n.level == TEST ? MIX : n.level;
        n.text = within(a, left, open) + blank() + sign + blank() + within(b, n.level + 1, open);
        n.open = open[0];
        n.pile = Math.max(a.pile, b.pile + 1);
    }

    private int atMost(int kind) {
        return 1 + random.nextInt(kind);
    }

    private Node test(int depth) {
        int kind = 1 + random.nextInt(4), pick = random.nextInt(6);
        boolean left = random.nextBoolean();
        Node a = node(left ? kind : atMost(kind), depth - 1), b = node(left ? atMost(kind) : kind, depth - 1);
        Node n = new Node();
        n.level = TEST;
        join(n, a, b, TESTS[pick]);
        addConverted(n, a, kind);
        addConverted(n, b, kind);
        act(n, 1400 + kind, 0);
        act(n, 1500 + pick, 0);
        n.meaning = o -> {
            Object x = become(a.meaning.of(o), kind), y = become(b.meaning.of(o), kind);
            int c = compare(x, y);
            return new boolean[] {c == 0, c != 0, c < 0, c > 0, c <= 0, c >= 0}[pick];
        };
        return n;
    }

    private static int compare(Object x, Object y) {
        if (x instanceof Integer || x instanceof Long) return Long.compare(((Number) x).longValue(), ((Number) y).longValue());
        double a = ((Number) x).doubleValue(), b = ((Number) y).doubleValue();
        return a < b ? -1 : a > b ? 1 : 0;
    }

    private Node signed(int kind, int depth) {
        boolean turn = kind <= 2 && random.nextBoolean();
        Node a = node(kind, depth - 1), n = new Node();
        int[] open = {0};
        n.kind = kind;
        n.level = SIGN;
        n.text = (turn ? "~" : "-") + blank() + within(a, SIGN, open);
        n.open = open[0] + 1;
        n.pile = a.pile;
        addCode(n, a);
        act(n, (turn ? 1300 : 1200) + kind, 0);
        n.meaning = o -> {
            Object v = a.meaning.of(o);
            if (kind == 1) return turn ? ~(Integer) v : -(Integer) v;
            if (kind == 2) return turn ? ~(Long) v : -(Long) v;
            return kind == 3 ? (Object) (-(Float) v) : (Object) (-(Double) v);
        };
        return n;
    }

    private Node pair(int kind, int depth) {
        int pick = random.nextInt(kind <= 2 ? 11 : 5);
        boolean shift = pick >= 8, left = random.nextBoolean();
        int other = shift ? 1 + random.nextInt(2) : atMost(kind);
        Node a = node(left || shift ? kind : other, depth - 1), b = node(left || shift ? other : kind, depth - 1);
        Node n = new Node();
        n.kind = kind;
        n.level = LEVELS[pick];
        join(n, a, b, SIGNS[pick]);
        addConverted(n, a, kind);
        addConverted(n, b, shift ? 1 : kind);
        act(n, 100 * (pick + 1) + kind, 0);
        n.meaning = o -> {
            Object x = become(a.meaning.of(o), kind), y = become(b.meaning.of(o), shift ? 1 : kind);
            return calculated(pick, kind, x, y);
        };
        return n;
    }

    private static Object calculated(int pick, int kind, Object x, Object y) {
        if (kind == 1) return ofInts(pick, (Integer) x, (Integer) y);
        if (kind == 2) return ofLongs(pick, (Long) x, ((Number) y).longValue());
        if (kind == 3) {
            float a = (Float) x, b = (Float) y;
            float v = pick == 0 ? a + b : pick == 1 ? a - b : pick == 2 ? a * b : pick == 3 ? a / b : a % b;
            if (v != v) throw new Failed(5);
            return v;
        }
        double a = (Double) x, b = (Double) y;
        double v = pick == 0 ? a + b : pick == 1 ? a - b : pick == 2 ? a * b : pick == 3 ? a / b : a % b;
        if (v != v) throw new Failed(5);
        return v;
    }

    private static int ofInts(int pick, int a, int b) {
        if ((pick == 3 || pick == 4) && b == 0) throw new Failed(4);
        switch (pick) {
            case 0: return a + b;
            case 1: return a - b;
            case 2: return a * b;
            case 3: return a / b;
            case 4: return a % b;
            case 5: return a & b;
            case 6: return a | b;
            case 7: return a ^ b;
            case 8: return a << b;
            case 9: return a >> b;
            default: return a >>> b;
        }
    }

    private static long ofLongs(int pick, long a, long b) {
        if ((pick == 3 || pick == 4) && b == 0) throw new Failed(4);
        switch (pick) {
            case 0: return a + b;
            case 1: return a - b;
            case 2: return a * b;
            case 3: return a / b;
            case 4: return a % b;
            case 5: return a & b;
            case 6: return a | b;
            case 7: return a ^ b;
            case 8: return a << b;
            case 9: return a >> b;
            default: return a >>> b;
        }
    }

    private Node function(int kind, int depth) {
        int pick = random.nextInt(5);
        if (pick <= 1) return extreme(kind, depth, pick == 0);
        if (pick == 2) return absolute(kind, depth);
        if (pick == 3 && kind >= 3) return kind == 3 ? signum(3, 3, depth) : rounding(depth);
        return cast(kind, depth);
    }

    private Node one(String name, Node a, int kind) {
        Node n = new Node();
        int[] open = {0};
        n.kind = kind;
        n.level = PART;
        n.text = name + blank() + "(" + within(a, SUM, open) + ")";
        n.open = open[0] + 1;
        n.pile = a.pile;
        return n;
    }

    private Node extreme(int kind, int depth, boolean min) {
        boolean left = random.nextBoolean();
        Node a = node(left ? kind : atMost(kind), depth - 1), b = node(left ? atMost(kind) : kind, depth - 1);
        Node n = new Node();
        int[] open = {0};
        n.kind = kind;
        n.level = PART;
        n.text = (min ? "min(" : "max(") + within(a, SUM, open) + "," + blank() + within(b, SUM, open) + ")";
        n.open = open[0] + 1;
        n.pile = Math.max(a.pile, b.pile + 1);
        addConverted(n, a, kind);
        addConverted(n, b, kind);
        act(n, (min ? 1750 : 1760) + kind, 0);
        n.meaning = o -> {
            Object x = become(a.meaning.of(o), kind), y = become(b.meaning.of(o), kind);
            if (kind == 1) return min ? Math.min((Integer) x, (Integer) y) : Math.max((Integer) x, (Integer) y);
            if (kind == 2) return min ? Math.min((Long) x, (Long) y) : Math.max((Long) x, (Long) y);
            if (kind == 3) return min ? Math.min((Float) x, (Float) y) : Math.max((Float) x, (Float) y);
            return min ? Math.min((Double) x, (Double) y) : Math.max((Double) x, (Double) y);
        };
        return n;
    }

    private Node absolute(int kind, int depth) {
        Node a = node(kind, depth - 1), n = one("abs", a, kind);
        addCode(n, a);
        act(n, 1700 + kind, 0);
        n.meaning = o -> {
            Object v = a.meaning.of(o);
            if (kind == 1) return Math.abs((Integer) v);
            if (kind == 2) return Math.abs((Long) v);
            return kind == 3 ? (Object) Math.abs((Float) v) : (Object) Math.abs((Double) v);
        };
        return n;
    }

    private Node signum(int from, int kind, int depth) {
        Node a = node(from, depth - 1), n = one("sign", a, kind);
        addConverted(n, a, kind);
        act(n, 1740 + kind, 0);
        n.meaning = o -> {
            Object v = become(a.meaning.of(o), kind);
            return kind == 3 ? (Object) Math.signum((Float) v) : (Object) Math.signum((Double) v);
        };
        return n;
    }

    private Node rounding(int depth) {
        int pick = random.nextInt(4), from = 1 + random.nextInt(4);
        if (pick == 3) return signum(from == 3 ? 4 : from, 4, depth);
        Node a = node(from, depth - 1), n = one(new String[] {"floor", "ceil", "rint"}[pick], a, 4);
        addConverted(n, a, 4);
        act(n, 1714 + 10 * pick, 0);
        n.meaning = o -> {
            double v = (Double) become(a.meaning.of(o), 4);
            return pick == 0 ? Math.floor(v) : pick == 1 ? Math.ceil(v) : Math.rint(v);
        };
        return n;
    }

    private Node cast(int kind, int depth) {
        int which = kind == 1 ? random.nextInt(4) : kind + 2;
        return castOf(which, kind, node(1 + random.nextInt(4), depth - 1));
    }

    private Node castOf(int which, int kind, Node a) {
        Node n = one(CASTS[which], a, kind);
        addConverted(n, a, kind);
        if (which < 3) act(n, 1651 + which, 0);
        n.meaning = o -> {
            Object v = become(a.meaning.of(o), kind);
            if (which == 0) return (int) (byte) (int) (Integer) v;
            if (which == 1) return (int) (short) (int) (Integer) v;
            return which == 2 ? (Object) (int) (char) (int) (Integer) v : v;
        };
        return n;
    }

    private static Object become(Object v, int kind) {
        if (kind == 0) return v;
        if (v instanceof Float) return ofFloat((Float) v, kind);
        if (v instanceof Double) return ofDouble((Double) v, kind);
        long w = ((Number) v).longValue();
        if (kind == 1) return (int) w;
        if (kind == 2) return w;
        return kind == 3 ? (Object) (float) w : (Object) (double) w;
    }

    private static Object ofFloat(float v, int kind) {
        if (kind == 1) return (int) v;
        if (kind == 2) return (long) v;
        return kind == 3 ? (Object) v : (Object) (double) v;
    }

    private static Object ofDouble(double v, int kind) {
        if (kind == 1) return (int) v;
        if (kind == 2) return (long) v;
        return kind == 3 ? (Object) (float) v : (Object) v;
    }
}
