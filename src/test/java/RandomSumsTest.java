import java.util.List;
import java.util.Random;

/**
 * Random sums as trees: from each tree come its text, its ACTS, its PILE and what Java itself
 * answers; the program must come to the same from the text alone.
 */
public final class RandomSumsTest {
    private static final Calls calls = new Calls();
    private static final Random random = new Random(7);

    private static final int OBJECTS = 5;
    private static final int[] LANES = {0, 1, 2, 3, 4, 5, 6, 7};
    /** The columns' cells, as Java has them. */
    private static final Object[][] cells = new Object[8][OBJECTS];
    private static final Trees trees = new Trees(random, LANES, cells);
    private static int fitted, tooLong, failed;

    public static void main(String[] args) {
        for (int i = 0; i < 12000; i++) {
            QueryClasses x = columns();
            int kind = random.nextInt(5);
            Trees.Node node = trees.node(kind, 2 + random.nextInt(6));
            if (node.text.length() > 380 || node.open > 12) continue;
            check(x, node);
        }
        System.out.println(fitted + " fit, " + tooLong + " too long, " + failed + " fail");
        calls.due("enough that fit", fitted > 5000 ? 1 : 0, 1);
        calls.due("enough that fail", failed > 300 ? 1 : 0, 1);
        calls.done();
    }

    private static QueryClasses columns() {
        QueryClasses x = new QueryClasses();
        x.objects(OBJECTS);
        for (int lane = 0; lane < 8; lane++) {
            x.column(lane, lane, OBJECTS);
            for (int i = 0; i < OBJECTS; i++) {
                cells[lane][i] = cellOf(lane);
                x.put(lane, i, bitsOf(cells[lane][i]));
            }
        }
        return x;
    }

    private static Object cellOf(int lane) {
        int small = random.nextInt(9) - 4;
        boolean wild = random.nextInt(3) == 0;
        switch (lane) {
            case 0: return random.nextBoolean();
            case 1: return (int) (byte) random.nextInt();
            case 2: return (int) (short) random.nextInt();
            case 3: return (int) (char) random.nextInt();
            case 4: return wild ? random.nextInt() : small;
            case 5: return wild ? random.nextLong() : (long) small;
            case 6: return wild ? (random.nextBoolean() ? Float.POSITIVE_INFINITY : 3e38f) : small * 0.75f;
            default: return wild ? (random.nextBoolean() ? Double.NEGATIVE_INFINITY : 1e-309) : small * 0.3;
        }
    }

    private static long bitsOf(Object v) {
        if (v instanceof Boolean) return (Boolean) v ? 1 : 0;
        if (v instanceof Float) return Calls.bits((float) (Float) v);
        if (v instanceof Double) return Calls.bits((double) (Double) v);
        return ((Number) v).longValue();
    }

    private static void check(QueryClasses x, Trees.Node node) {
        boolean truth = node.kind == 0;
        String sum = truth && node.level < Trees.OR ? "(" + node.text + ")" : node.text;
        if (truth && node.level < Trees.OR && node.open == 12) return;
        String text = (truth ? "find " : "fold max ") + sum + (truth ? "" : " by row");
        int got = Calls.ask(x, text);
        if (node.code.size() > 200 || node.pile > 24) {
            tooLong++;
            calls.due(text, got, -10 - text.length());
            calls.due(text, x.fault(), 6);
            return;
        }
        fitted++;
        calls.due(text, got, 0);
        calls.due(text, Calls.code(x, 0, truth ? 0 : 1), told(node.code));
        answers(x, node, text);
    }

    private static void answers(QueryClasses x, Trees.Node node, String text) {
        boolean truth = node.kind == 0;
        int got = x.run(0), hits = 0;
        for (int object = 0; object < OBJECTS; object++) {
            try {
                Object v = node.meaning.of(object);
                if (truth && (Boolean) v) {
                    if (got >= 0) calls.due(text, x.hit(hits), object);
                    hits++;
                } else if (!truth) {
                    if (got >= 0) calls.due(text + " of " + object, x.value(object), bitsOf(v));
                    hits++;
                }
            } catch (Trees.Failed f) {
                failed++;
                calls.due(text, got, -10 - object);
                calls.due(text, x.told(0), f.fault);
                return;
            }
        }
        calls.due(text, got, hits);
    }

    private static String told(List<int[]> code) {
        StringBuilder out = new StringBuilder();
        int reals = 0;
        for (int[] act : code) {
            if (out.length() > 0) out.append(' ');
            int a = act[0] == 2 ? reals++ : act[1];
            out.append(act[0]);
            if (a != 0) out.append(':').append(a);
        }
        return out.toString();
    }
}
