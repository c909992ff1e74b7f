import java.util.List;
import java.util.function.Supplier;
import java.util.function.ToLongFunction;

/**
 * Refused calls change nothing, and calls that tell something change nothing: of two objects that
 * came about alike, one is asked and the other isn't; then all that can be told of them is alike.
 */
public final class RefusedTest {
    private static final Calls calls = new Calls();
    private static final int MIN = Integer.MIN_VALUE, MAX = Integer.MAX_VALUE;
    private static final long LOST = Long.MIN_VALUE;
    private static final List<Supplier<QueryClasses>> WORLDS = List.of(QueryClasses::new, RefusedTest::found,
        RefusedTest::folded, RefusedTest::setWith, RefusedTest::failed);

    public static void main(String[] args) {
        for (Supplier<QueryClasses> world : WORLDS) world(world);
        fullTape();
        fullQueries();
        wrongTexts();
        failedRuns();
        firstOfTheAnswers();
        calls.done();
    }

    /** COLUMNS 0 .. 7 of their LANES, 8 the same as 4, 9 MISSING. */
    private static QueryClasses filled() {
        QueryClasses x = new QueryClasses();
        x.objects(3);
        for (int c = 0; c < 8; c++) {
            x.column(c, c, 3);
            for (int i = 0; i < 3; i++) x.put(c, i, c < 6 ? 10 + i : c == 6 ? Calls.bits(1.5f + i) : Calls.bits(1.5 + i));
        }
        x.share(8, 4);
        return x;
    }

    private static QueryClasses found() {
        QueryClasses x = filled();
        Calls.ask(x, "find $4>10 order $7 down");
        x.run(0);
        Calls.ask(x, "find $9");
        Calls.lay(x, "find yes or no");
        return x;
    }

    private static QueryClasses folded() {
        QueryClasses x = filled();
        Calls.ask(x, "fold sum $6 by row&1");
        Calls.ask(x, "find yes");
        x.run(0);
        Calls.lay(x, "fold count");
        return x;
    }

    private static QueryClasses setWith() {
        QueryClasses x = filled();
        Calls.ask(x, "set $8 := $4*2 where row!=1");
        x.run(0);
        Calls.ask(x, "find");
        return x;
    }

    private static QueryClasses failed() {
        QueryClasses x = filled();
        Calls.ask(x, "set $5 := 1/(1-row)");
        x.run(0);
        Calls.lay(x, "find @");
        return x;
    }

    /** What THE TAPE holds is told by what comes of it. */
    private static String all(QueryClasses x) {
        String state = Calls.state(x);
        if (x.count(2) == 12) x.clear();
        int q = x.query();
        return state + ", tape " + q + " " + x.fault() + " " + (q < 0 ? "" : Calls.code(x, q, 0) + ";" + Calls.code(x, q, 1));
    }

    private static void same(Supplier<QueryClasses> world, String call, ToLongFunction<QueryClasses> asked, long want) {
        QueryClasses x = world.get();
        calls.due(call, asked.applyAsLong(x), want);
        calls.due(call + ": nothing is changed", all(x), all(world.get()));
    }

    /** Likewise of a call whose answer isn't looked at here. */
    private static void tells(Supplier<QueryClasses> world, String call, ToLongFunction<QueryClasses> asked) {
        QueryClasses x = world.get();
        asked.applyAsLong(x);
        calls.due(call + ": nothing is changed", all(x), all(world.get()));
    }

    private static void world(Supplier<QueryClasses> world) {
        QueryClasses x = world.get();
        objectsAndColumns(world);
        cells(world, x.count(1) > 0);
        tape(world, x.count(3));
        queries(world, x.count(2));
        runs(world, x.told(4));
        telling(world);
    }

    private static void objectsAndColumns(Supplier<QueryClasses> world) {
        for (int n : new int[] {-1, 17, MIN, MAX}) same(world, "2 objects(" + n + ")", x -> x.objects(n), -1);
        int[][] columns = {{-1, 4, 2}, {10, 4, 2}, {3, -1, 2}, {3, 8, 2}, {3, 4, -1}, {3, 4, 17}, {MIN, 4, 2}, {MAX, 4, 2},
            {3, MIN, 2}, {3, MAX, 2}, {3, 4, MIN}, {3, 4, MAX}};
        for (int[] c : columns) {
            same(world, "3 column(" + c[0] + ", " + c[1] + ", " + c[2] + ")", x -> x.column(c[0], c[1], c[2]), -1);
        }
        int[][] shares = {{-1, 0}, {10, 0}, {0, -1}, {0, 10}, {MIN, 9}, {MAX, 9}, {9, MIN}, {9, MAX}};
        for (int[] s : shares) same(world, "4 share(" + s[0] + ", " + s[1] + ")", x -> x.share(s[0], s[1]), -1);
        for (int c : new int[] {-1, 10, MIN, MAX}) same(world, "5 drop(" + c + ")", x -> x.drop(c), -1);
    }

    private static void cells(Supplier<QueryClasses> world, boolean there) {
        for (int c : new int[] {-1, 10, MIN, MAX}) {
            same(world, "6 put(" + c + ", 0, 1)", x -> x.put(c, 0, 1), -1);
            same(world, "7 cell(" + c + ", 0)", x -> x.cell(c, 0), LOST);
        }
        same(world, "6 put(9, 0, 1)", x -> x.put(9, 0, 1), -3);
        same(world, "6 put(9, 15, 1)", x -> x.put(9, 15, 1), -3);
        same(world, "6 put(9, 16, 1)", x -> x.put(9, 16, 1), -1);
        same(world, "7 cell(9, 0)", x -> x.cell(9, 0), LOST);
        if (!there) return;
        for (int c = 0; c < 9; c++) {
            int column = c;
            for (int i : new int[] {-1, 3, 16, MIN, MAX}) {
                same(world, "6 put(" + c + ", " + i + ", 1)", x -> x.put(column, i, 1), -1);
                same(world, "7 cell(" + c + ", " + i + ")", x -> x.cell(column, i), LOST);
            }
        }
        for (long v : new long[] {0x7F800001L, 0x7FC00000L, -1}) same(world, "6 no float", x -> x.put(6, 0, v), -1);
        for (long v : new long[] {0x7FF0000000000001L, 0x7FF8000000000000L, -1}) same(world, "6 no double", x -> x.put(7, 0, v), -1);
    }

    private static void tape(Supplier<QueryClasses> world, int bytes) {
        for (int n : new int[] {-1, bytes + 1, 401, MIN, MAX}) same(world, "10 end(" + n + ")", x -> x.end(n), -1);
        same(world, "10 end of all", x -> x.end(bytes), 1);
    }

    private static void queries(Supplier<QueryClasses> world, int queries) {
        for (int q : new int[] {-1, queries, 12, MIN, MAX}) {
            same(world, "13 acts(" + q + ", 0)", x -> x.acts(q, 0), -1);
            same(world, "14 act(" + q + ", 0, 0, 0)", x -> x.act(q, 0, 0, 0), -2);
            same(world, "15 run(" + q + ")", x -> x.run(q), -1);
        }
        for (int part : new int[] {-1, 3, MIN, MAX}) {
            same(world, "13 acts(0, " + part + ")", x -> x.acts(0, part), -1);
            same(world, "14 act(0, " + part + ", 0, 0)", x -> x.act(0, part, 0, 0), -2);
        }
        for (int i : new int[] {-1, 200, MIN, MAX}) same(world, "14 act(0, 1, " + i + ", 0)", x -> x.act(0, 1, i, 0), -2);
        for (int what : new int[] {-1, 2, MIN, MAX}) same(world, "14 act(0, 1, 0, " + what + ")", x -> x.act(0, 1, 0, what), -2);
    }

    private static void runs(Supplier<QueryClasses> world, int hits) {
        for (int what : new int[] {-1, 6, MIN, MAX}) same(world, "16 told(" + what + ")", x -> x.told(what), -2);
        for (int k : new int[] {-1, hits, 16, MIN, MAX}) {
            same(world, "17 hit(" + k + ")", x -> x.hit(k), -1);
            same(world, "18 score(" + k + ")", x -> x.score(k), LOST);
            same(world, "19 value(" + k + ")", x -> x.value(k), LOST);
        }
        for (int what : new int[] {-1, 4, MIN, MAX}) same(world, "20 count(" + what + ")", x -> x.count(what), -1);
        for (int c : new int[] {-1, 10, MIN, MAX}) same(world, "8 about(" + c + ", 0)", x -> x.about(c, 0), -2);
        for (int what : new int[] {-1, 3, MIN, MAX}) same(world, "8 about(0, " + what + ")", x -> x.about(0, what), -2);
    }

    private static void telling(Supplier<QueryClasses> world) {
        for (int c = 0; c < 10; c++) {
            int column = c;
            tells(world, "7 cell(" + c + ", 1)", x -> x.cell(column, 1));
            for (int w = 0; w < 3; w++) {
                int what = w;
                tells(world, "8 about(" + c + ", " + w + ")", x -> x.about(column, what));
            }
        }
        tells(world, "12 fault()", x -> x.fault());
        for (int p = 0; p < 3; p++) {
            int part = p;
            tells(world, "13 acts(0, " + p + ")", x -> x.acts(0, part));
            tells(world, "14 act(0, " + p + ", 0, 0)", x -> x.act(0, part, 0, 0));
            tells(world, "14 act(0, " + p + ", 0, 1)", x -> x.act(0, part, 0, 1));
        }
        for (int w = 0; w < 6; w++) {
            int what = w;
            tells(world, "16 told(" + w + ")", x -> x.told(what));
            tells(world, "20 count(" + w + ")", x -> x.count(what));
        }
        for (int k = 0; k < 2; k++) {
            int which = k;
            tells(world, "17 hit(" + k + ")", x -> x.hit(which));
            tells(world, "18 score(" + k + ")", x -> x.score(which));
            tells(world, "19 value(" + k + ")", x -> x.value(which));
        }
    }

    private static void fullTape() {
        for (int bytes : new int[] {381, 390, 399, 400}) {
            Supplier<QueryClasses> world = () -> {
                QueryClasses x = new QueryClasses();
                Calls.lay(x, "find yes" + " ".repeat(bytes - 11) + "and");
                return x;
            };
            same(world, "9 FULL at " + bytes, x -> x.feed(0x40404040, 0x40404040, 0x40404040, 0x40404040, 0x40404040), -2);
            same(world, "9 FULL at " + bytes, x -> x.feed(0, MIN, MAX, -1, 1), -2);
        }
    }

    private static void fullQueries() {
        for (String text : new String[] {"", "find yes", "find @", "find 1"}) {
            Supplier<QueryClasses> world = () -> {
                QueryClasses x = new QueryClasses();
                x.objects(2);
                Calls.ask(x, "find 1+yes");
                for (int q = 0; q < 12; q++) Calls.ask(x, q % 2 == 0 ? "find yes" : "fold count by row");
                x.run(11);
                Calls.lay(x, text);
                return x;
            };
            same(world, "11 FULL of '" + text + "'", x -> x.query(), -2);
            same(world, "15 run(12)", x -> x.run(12), -1);
        }
    }

    /** A text with a FAULT empties THE TAPE and is the latest text: nothing else comes of it. */
    private static void wrongTexts() {
        String[] texts = {"find @", "find", "find " + "(".repeat(13), "find 1", "find $9", "fold max 1" + "+1".repeat(100)};
        int[] places = {5, 4, 17, 6, 5, 210};
        for (int t = 0; t < texts.length; t++) {
            for (Supplier<QueryClasses> world : WORLDS) {
                QueryClasses x = world.get(), y = world.get();
                x.end(0);
                y.end(0);
                calls.due("11 " + texts[t], Calls.ask(x, texts[t]), -10 - places[t]);
                calls.due("12 " + texts[t], x.fault(), t + 1);
                String of = Calls.state(x).replaceFirst("fault \\d", ""), before = Calls.state(y).replaceFirst("fault \\d", "");
                calls.due("11 " + texts[t] + ": nothing else is changed", of, before);
            }
        }
    }

    /** A RUN that fails is the latest RUN: nothing else comes of it, whatever it had set. */
    private static void failedRuns() {
        String[] texts = {"set $4 := 7/(2-row)", "set $7 := $7+$6[row+1]", "set $0 := 1/(2-row)=1", "fold count by row*(1/(2-row))",
            "find yes order 0.0/(2.0-row-0.0*$6)*0.0/(row=2?0.0:1.0)", "set $3 := 1 where $2[row+1]>0"};
        for (String text : texts) {
            QueryClasses x = filled(), y = filled();
            calls.due("11 " + text, Calls.ask(x, text), 0);
            Calls.ask(y, text);
            calls.due("15 " + text, x.run(0), -12);
            String of = Calls.state(x).replaceFirst("run( -?\\d+){6}", ""), before = Calls.state(y).replaceFirst("run( -?\\d+){6}", "");
            calls.due("15 " + text + ": nothing else is changed", of, before);
        }
    }

    /** Where two of BAD, FULL, NO would do, the first of them is answered. */
    private static void firstOfTheAnswers() {
        QueryClasses x = new QueryClasses();
        calls.due("BAD ahead of NO", x.put(-1, 0, 1), -1);
        calls.due("BAD ahead of NO", x.put(10, 0, 1), -1);
        calls.due("BAD ahead of NO", x.put(0, -1, 1), -1);
        calls.due("BAD ahead of NO", x.put(0, 16, 1), -1);
        calls.due("NO", x.put(0, 0, 1), -3);
        calls.due("NONE", QueryClasses.NONE, -1);
        calls.due("BAD", QueryClasses.BAD, -1);
        calls.due("FULL", QueryClasses.FULL, -2);
        calls.due("NO", QueryClasses.NO, -3);
        calls.due("LOST", QueryClasses.LOST, LOST);
    }
}
