import java.util.List;
import java.util.Random;

/**
 * Random runs of calls against a model in Java's own arrays: after each call all that an object tells
 * must be what the model has. COLUMNS change between a query and its RUN, and rows are shared.
 */
public final class RandomRunsTest {
    private static final Calls calls = new Calls();
    private static final Random random = new Random(31);
    private static final String[] HOWS = {"count", "sum", "min", "max", "mean"};
    private static final int[] faults = new int[7];
    private static int tooLong, hits, groups, sets;

    private final QueryClasses x = new QueryClasses();
    private final Model model = new Model();

    public static void main(String[] args) {
        for (int i = 0; i < 4000; i++) new RandomRunsTest().live();
        System.out.println(faults[0] + " runs end well, with " + hits + " hits, " + groups + " groups, " + sets + " sets; " + tooLong + " texts are too long");
        for (int f = 0; f < 7; f++) calls.due("RUNS with FAULT " + f + " are many", faults[f] > 80 ? 1 : 0, 1);
        calls.due("HITS, GROUPS, sets are many", hits > 1000 && groups > 1000 && sets > 1000 ? 1 : 0, 1);
        calls.done();
    }

    private void live() {
        objects();
        for (int c = 0; c < 10; c++) if (random.nextInt(8) > 0) column(c);
        int turns = 10 + random.nextInt(20);
        for (int t = 0; t < turns; t++) {
            String call = turn();
            calls.due(call, Calls.state(x), model.state());
        }
    }

    private String turn() {
        int pick = random.nextInt(20);
        if (pick == 0) return objects();
        if (pick == 1) return column(random.nextInt(10));
        if (pick == 2) return share();
        if (pick == 3) return drop();
        if (pick <= 5) return put(random.nextInt(10), random.nextInt(16));
        if (pick == 6 && random.nextInt(4) == 0) {
            calls.due("clear()", x.clear(), model.queries.size());
            model.clear();
            return "clear()";
        }
        if (pick <= 12 && model.queries.size() < 12) return query();
        return model.queries.isEmpty() ? "nothing" : run();
    }

    private String objects() {
        int n = random.nextInt(3) == 0 ? random.nextInt(17) : random.nextInt(7);
        calls.due("objects(" + n + ")", x.objects(n), model.objects);
        model.objects = n;
        return "objects(" + n + ")";
    }

    private String column(int c) {
        int lane = random.nextInt(8), n = random.nextInt(4) == 0 ? random.nextInt(17) : 6 + random.nextInt(11);
        calls.due("column", x.column(c, lane, n), 1);
        model.columns[c] = Model.newRow(lane, n);
        for (int i = 0; i < n; i++) put(c, i);
        return "column(" + c + ", " + lane + ", " + n + ")";
    }

    private String share() {
        int c = random.nextInt(10), d = random.nextInt(10);
        calls.due("share", x.share(c, d), 1);
        model.columns[c] = model.columns[d];
        return "share(" + c + ", " + d + ")";
    }

    private String drop() {
        int c = random.nextInt(10);
        calls.due("drop", x.drop(c), model.columns[c] == null ? 0 : 1);
        model.columns[c] = null;
        return "drop(" + c + ")";
    }

    private String put(int c, int i) {
        int lane = Model.lane(model.columns[c]);
        int small = random.nextInt(9) - 4;
        long v = random.nextInt(4) == 0 ? random.nextLong() : small;
        if (lane == 6 && random.nextInt(9) > 0) v = Calls.bits(random.nextInt(9) == 0 ? small / 0f : small * 0.75f);
        if (lane == 7 && random.nextInt(9) > 0) v = Calls.bits(random.nextInt(9) == 0 ? small / 0.0 : small * 0.3);
        if (lane == 0) v &= 1;
        String call = "put(" + c + ", " + i + ", " + v + ")";
        calls.due(call, x.put(c, i, v), model.put(c, i, v));
        return call;
    }

    // ---- queries ----

    private Trees.Node sum(int kind, int most) {
        int[] lanes = new int[10];
        Object[][] cells = new Object[10][];
        for (int c = 0; c < 10; c++) {
            lanes[c] = Model.lane(model.columns[c]);
            cells[c] = new Object[Math.max(0, Model.cells(model.columns[c]))];
        }
        return new Trees(random, lanes, cells).node(kind, random.nextInt(most + 1));
    }

    /** A truth as an or, which a sum is where it is in ( ). */
    private Trees.Node truth() {
        Trees.Node n = sum(0, 3);
        if (n.level < Trees.OR) {
            n.text = "(" + n.text + ")";
            n.open++;
        }
        return n;
    }

    private static int some(int... of) {
        return of[random.nextInt(of.length)];
    }

    private boolean fits = true;
    private int pile = 0;
    private StringBuilder text;

    private void add(Model.Query query, int part, String words, Trees.Node n) {
        text.append(words).append(n.text);
        fits &= n.open <= 12;
        pile = Math.max(pile, n.pile);
        query.parts.get(part).addAll(n.code);
    }

    private static void become(Model.Query query, int from, int to) {
        if (from != to) query.parts.get(1).add(new int[] {1600 + 10 * from + to, 0});
    }

    private String query() {
        Model.Query query = new Model.Query();
        text = new StringBuilder();
        fits = true;
        pile = 0;
        int verb = random.nextInt(3), column = random.nextInt(10);
        if (verb == 0) find(query);
        else if (verb == 1 || model.columns[column] == null) fold(query);
        else set(query, column);
        String told = text.toString();
        if (!fits || told.length() > 400) return "nothing";
        int code = 0;
        for (List<int[]> part : query.parts) code = Math.max(code, part.size());
        int got = Calls.ask(x, told);
        if (code > 200 || pile > 24) {
            tooLong++;
            model.fault = 6;
            calls.due(told, got, -10 - told.length());
            return told;
        }
        model.fault = 0;
        calls.due(told, got, model.queries.size());
        numberReals(query);
        model.queries.add(query);
        return told;
    }

    /** REALS go by their order in the text, in which the sum of fold and set stands ahead of where. */
    private static void numberReals(Model.Query query) {
        int reals = 0;
        for (int part : query.verb.equals("find") ? new int[] {0, 1} : new int[] {1, 0, 2}) {
            for (int[] act : query.parts.get(part)) if (act[0] == 2) act[1] = reals++;
        }
    }

    private void find(Model.Query query) {
        query.verb = "find";
        add(query, 0, "find ", truth());
        if (random.nextInt(3) > 0) {
            Trees.Node order = sum(1 + random.nextInt(4), 3);
            add(query, 1, " order ", order);
            become(query, order.kind, 4);
            query.down = random.nextBoolean();
            if (query.down) text.append(" down");
        }
        if (random.nextInt(3) == 0) {
            query.first = random.nextInt(6);
            text.append(" first ").append(query.first);
        }
    }

    private void where(Model.Query query) {
        if (random.nextInt(3) == 0) add(query, 0, " where ", truth());
    }

    private void fold(Model.Query query) {
        query.verb = "fold";
        query.how = HOWS[random.nextInt(5)];
        text.append("fold ").append(query.how);
        if (!query.how.equals("count")) {
            Trees.Node n = sum(1 + random.nextInt(4), 3);
            add(query, 1, " ", n);
            query.kind = n.kind;
            if (query.how.equals("mean")) become(query, n.kind, 4);
            if (query.how.equals("sum")) become(query, n.kind, n.kind <= 2 ? 2 : 4);
        }
        where(query);
        if (random.nextInt(3) > 0) add(query, 2, " by ", sum(some(1, 2), 2));
    }

    private void set(Model.Query query, int column) {
        int lane = Model.lane(model.columns[column]), kind = Trees.kindOf(lane);
        query.verb = "set";
        query.parts.get(1).add(new int[] {3, 0});
        Trees.Node n = sum(kind == 0 ? 0 : 1 + random.nextInt(4), 3);
        // The tree's jumps are to move behind the ACT that stands ahead of it.
        for (int[] act : n.code) if (act[0] >= 1800 && act[0] <= 1802) act[1]++;
        n.pile++;
        add(query, 1, "set $" + column + " := ", n);
        become(query, n.kind, kind);
        if (lane > 0 && lane < 4) query.parts.get(1).add(new int[] {1650 + lane, 0});
        query.parts.get(1).add(new int[] {20 + lane, column});
        where(query);
    }

    private String run() {
        int q = random.nextInt(model.queries.size()), want = model.run(q);
        Model.Query query = model.queries.get(q);
        calls.due("run(" + q + ")", x.run(q), want);
        faults[x.told(0)]++;
        if (want > 0 && query.verb.equals("find")) hits += want;
        if (want > 0 && query.verb.equals("fold")) groups += want;
        if (want > 0 && query.verb.equals("set")) sets += want;
        return "run(" + q + ")";
    }
}
