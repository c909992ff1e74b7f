/** Each promise by its number: ordinary inputs, the edges the document names, wrong inputs. */
public final class PromisesTest {
    private static final Calls calls = new Calls();
    private static final int MIN = Integer.MIN_VALUE, MAX = Integer.MAX_VALUE;

    public static void main(String[] args) {
        newObject();
        objects();
        column();
        share();
        drop();
        putAndCell();
        putNumbers();
        about();
        feedAndEnd();
        query();
        fault();
        actsAndAct();
        find();
        order();
        folds();
        foldsOfNone();
        groups();
        means();
        sets();
        failures();
        endlessFolds();
        told();
        hitScoreValue();
        count();
        clear();
        calls.done();
    }

    private static void due(String call, long got, long want) {
        calls.due(call, got, want);
    }

    private static int ask(QueryClasses x, String text) {
        return Calls.ask(x, text);
    }

    private static int runs(QueryClasses x, String text) {
        return x.run(ask(x, text));
    }

    private static void newObject() {
        QueryClasses x = new QueryClasses();
        for (int what = 0; what < 4; what++) due("1 count(" + what + ")", x.count(what), 0);
        for (int c = 0; c < 10; c++) {
            due("1 about(c, 0)", x.about(c, 0), -1);
            due("1 about(c, 1)", x.about(c, 1), -1);
            due("1 about(c, 2)", x.about(c, 2), 0);
        }
        due("1 fault", x.fault(), 0);
        due("1 told(0)", x.told(0), 0);
        due("1 told(1)", x.told(1), -1);
        due("1 told(2)", x.told(2), -1);
        due("1 told(3)", x.told(3), 0);
        due("1 told(4)", x.told(4), 0);
        due("1 told(5)", x.told(5), -1);
        due("1 clear", x.clear(), 0);
        due("1 acts", x.acts(0, 0), -1);
        due("1 LOST", QueryClasses.LOST, Long.MIN_VALUE);
    }

    private static void objects() {
        QueryClasses x = new QueryClasses();
        due("2 objects(16)", x.objects(16), 0);
        due("2 objects(17)", x.objects(17), -1);
        due("2 objects(-1)", x.objects(-1), -1);
        due("2 objects(MIN)", x.objects(MIN), -1);
        due("2 objects(MAX)", x.objects(MAX), -1);
        due("2 objects(0)", x.objects(0), 16);
        due("2 objects(5)", x.objects(5), 0);
        due("2 count(0)", x.count(0), 5);
    }

    private static void column() {
        QueryClasses x = new QueryClasses();
        for (int lane = 0; lane < 8; lane++) {
            due("3 column", x.column(lane, lane, 2 * lane), 1);
            due("3 lane", x.about(lane, 0), lane);
            due("3 cells", x.about(lane, 1), 2 * lane);
        }
        due("3 column(9, 0, 16)", x.column(9, 0, 16), 1);
        int[][] bad = {{-1, 0, 1}, {10, 0, 1}, {9, -1, 1}, {9, 8, 1}, {9, 0, -1}, {9, 0, 17}, {MIN, MIN, MIN}, {MAX, MAX, MAX}};
        for (int[] b : bad) due("3 bad column", x.column(b[0], b[1], b[2]), -1);
        due("3 it stayed", x.about(9, 1), 16);
        x.put(7, 3, 77);
        due("3 a new row", x.column(7, 7, 4), 1);
        due("3 its cells are 0", x.cell(7, 3), 0);
    }

    private static void share() {
        QueryClasses x = new QueryClasses();
        x.column(3, 4, 2);
        due("4 share", x.share(1, 3), 1);
        x.put(1, 0, 9);
        due("4 the same row", x.cell(3, 0), 9);
        due("4 share of itself", x.share(3, 3), 1);
        due("4 it is there", x.about(3, 0), 4);
        due("4 least", x.about(3, 2), 1);
        x.column(3, 5, 1);
        due("4 the other one stays", x.cell(1, 0), 9);
        due("4 not the same now", x.about(3, 2), 3);
        due("4 share of a MISSING one", x.share(1, 8), 1);
        due("4 MISSING", x.about(1, 0), -1);
        due("4 share(-1, 0)", x.share(-1, 0), -1);
        due("4 share(0, 10)", x.share(0, 10), -1);
        due("4 share(10, 0)", x.share(10, 0), -1);
        due("4 share(0, MIN)", x.share(0, MIN), -1);
        due("4 count", x.count(1), 1);
    }

    private static void drop() {
        QueryClasses x = new QueryClasses();
        x.column(2, 1, 3);
        x.share(5, 2);
        due("5 drop(2)", x.drop(2), 1);
        due("5 drop(2) again", x.drop(2), 0);
        due("5 its other column is there", x.about(5, 1), 3);
        due("5 drop(-1)", x.drop(-1), -1);
        due("5 drop(10)", x.drop(10), -1);
        due("5 count", x.count(1), 1);
    }

    private static void putAndCell() {
        QueryClasses x = new QueryClasses();
        long v = 0x123456789ABCDEF8L;
        long[] kept = {1, (byte) v, (short) v, (char) v, (int) v, v, (int) v, v};
        for (int lane = 0; lane < 8; lane++) {
            x.column(lane, lane, 2);
            due("6 put in lane " + lane, x.put(lane, 1, v), 1);
            due("7 cell of lane " + lane, x.cell(lane, 1), kept[lane]);
            due("7 cell 0 of lane " + lane, x.cell(lane, 0), 0);
            due("6 put past the end", x.put(lane, 2, 0), -1);
            due("6 put(-1)", x.put(lane, -1, 0), -1);
            due("7 cell past the end", x.cell(lane, 2), Long.MIN_VALUE);
            due("7 cell(-1)", x.cell(lane, -1), Long.MIN_VALUE);
        }
        due("6 truth of high bits alone", x.put(0, 0, 1L << 40), 1);
        due("7 it is 1", x.cell(0, 0), 1);
        due("6 truth 0", x.put(0, 0, 0), 1);
        due("7 it is 0", x.cell(0, 0), 0);
        x.put(3, 0, -1);
        due("7 a char", x.cell(3, 0), 65535);
        due("6 MISSING", x.put(9, 0, 1), -3);
        due("6 MISSING, cell 15", x.put(9, 15, 1), -3);
        due("6 MISSING, no such cell ever", x.put(9, 16, 1), -1);
        due("6 MISSING, cell -1", x.put(9, -1, 1), -1);
        due("6 no such column", x.put(10, 0, 1), -1);
        due("6 no such column", x.put(-1, 0, 1), -1);
        due("7 MISSING", x.cell(9, 0), Long.MIN_VALUE);
        due("7 no such column", x.cell(10, 0), Long.MIN_VALUE);
        due("7 no such column", x.cell(MIN, MIN), Long.MIN_VALUE);
    }

    private static void putNumbers() {
        QueryClasses x = new QueryClasses();
        x.column(0, 6, 1);
        x.column(1, 7, 1);
        int[] floats = {0, MIN, 1, 0x7F800000, 0xFF800000, 0x7F7FFFFF, 0x00800000};
        for (int f : floats) {
            due("6 float", x.put(0, 0, f), 1);
            due("7 float", x.cell(0, 0), f);
            due("6 float by its lowest bits", x.put(0, 0, f & 0xFFFFFFFFL), 1);
            due("7 float as an int", x.cell(0, 0), f);
        }
        int[] noFloats = {0x7F800001, 0xFF800001, 0x7FC00000, -1, MAX};
        for (int f : noFloats) due("6 no float", x.put(0, 0, f), -1);
        due("6 floats keep no high bits", x.put(0, 0, 0x7FF8000000000000L), 1);
        long[] noDoubles = {0x7FF0000000000001L, 0xFFF0000000000001L, -1, Long.MAX_VALUE, 0x7FF8000000000000L};
        for (long d : noDoubles) due("6 no double", x.put(1, 0, d), -1);
        due("7 it stayed", x.cell(1, 0), 0);
        long[] doubles = {0x7FF0000000000000L, 0xFFF0000000000000L, Long.MIN_VALUE, 1, 0x7F800001L};
        for (long d : doubles) {
            due("6 double", x.put(1, 0, d), 1);
            due("7 double", x.cell(1, 0), d);
        }
    }

    private static void about() {
        QueryClasses x = new QueryClasses();
        x.column(0, 0, 0);
        x.column(4, 7, 16);
        x.share(6, 4);
        due("8 lane 0", x.about(0, 0), 0);
        due("8 no cells", x.about(0, 1), 0);
        due("8 lane", x.about(6, 0), 7);
        due("8 cells", x.about(6, 1), 16);
        due("8 least alike", x.about(6, 2), 4);
        due("8 itself", x.about(4, 2), 4);
        due("8 least MISSING", x.about(9, 2), 1);
        due("8 MISSING", x.about(9, 0), -1);
        due("8 MISSING", x.about(9, 1), -1);
        int[][] bad = {{-1, 0}, {10, 0}, {0, -1}, {0, 3}, {MAX, 2}, {0, MIN}};
        for (int[] b : bad) due("8 bad", x.about(b[0], b[1]), -2);
    }

    private static void feedAndEnd() {
        QueryClasses x = new QueryClasses();
        for (int n = 20; n <= 400; n += 20) due("9 feed", x.feed(n, 0, -1, MIN, MAX), n);
        due("9 FULL", x.feed(0, 0, 0, 0, 0), -2);
        due("9 it stays", x.count(3), 400);
        due("10 end(401)", x.end(401), -1);
        due("10 end(-1)", x.end(-1), -1);
        due("10 end(400)", x.end(400), 1);
        due("10 end(381)", x.end(381), 1);
        due("9 FULL by one", x.feed(0, 0, 0, 0, 0), -2);
        due("10 end(382)", x.end(382), -1);
        due("10 end(380)", x.end(380), 1);
        due("9 just room", x.feed(0, 0, 0, 0, 0), 400);
        due("10 end(0)", x.end(0), 1);
        due("10 end(1)", x.end(1), -1);
        due("20 empty", x.count(3), 0);
        x.feed(0x66696E64, 0x20796573, 0x40404040, 0, 0);
        due("10 end", x.end(8), 1);
        due("9 the highest byte first", x.query(), 0);
    }

    private static void query() {
        QueryClasses x = new QueryClasses();
        Calls.lay(x, "find yes");
        due("11 first", x.query(), 0);
        due("11 the tape is empty", x.count(3), 0);
        due("11 a wrong one", ask(x, "find 1"), -16);
        due("11 the tape is empty", x.count(3), 0);
        for (int q = 1; q < 12; q++) due("11 next", ask(x, "find no"), q);
        Calls.lay(x, "find yes");
        due("11 FULL", x.query(), -2);
        due("11 the tape stays", x.count(3), 8);
        due("11 twelve", x.count(2), 12);
        due("12 no text was looked at", x.fault(), 0);
        x.clear();
        due("11 from 0 again", x.query(), 0);
    }

    private static void fault() {
        QueryClasses x = new QueryClasses();
        ask(x, "find @");
        due("12", x.fault(), 1);
        ask(x, "find");
        due("12", x.fault(), 2);
        ask(x, "find ((((((((((((( ");
        due("12", x.fault(), 3);
        ask(x, "find 1");
        due("12", x.fault(), 4);
        ask(x, "find $0");
        due("12", x.fault(), 5);
        x.clear();
        due("12 clear lets it be", x.fault(), 5);
        ask(x, "find yes");
        due("12 none", x.fault(), 0);
    }

    private static void actsAndAct() {
        QueryClasses x = new QueryClasses();
        x.column(7, 4, 1);
        ask(x, "fold sum 5 where yes and no by $7");
        due("13 where", x.acts(0, 0), 5);
        due("13 sum", x.acts(0, 1), 2);
        due("13 by", x.acts(0, 2), 2);
        int[][] bad = {{-1, 0}, {1, 0}, {0, -1}, {0, 3}, {MAX, 0}, {0, MIN}};
        for (int[] b : bad) due("13 bad", x.acts(b[0], b[1]), -1);
        due("14 op", x.act(0, 0, 1, 0), 1800);
        due("14 a", x.act(0, 0, 1, 1), 4);
        due("14 a of the jump to the end", x.act(0, 0, 3, 1), 5);
        due("14 op", x.act(0, 2, 1, 0), 14);
        due("14 a", x.act(0, 2, 1, 1), 7);
        due("14 no a", x.act(0, 2, 0, 1), 0);
        int[][] wrong = {{-1, 0, 0, 0}, {1, 0, 0, 0}, {0, 3, 0, 0}, {0, -1, 0, 0}, {0, 0, 5, 0}, {0, 0, -1, 0}, {0, 0, 0, 2}, {0, 0, 0, -1}};
        for (int[] w : wrong) due("14 bad", x.act(w[0], w[1], w[2], w[3]), -2);
        ask(x, "find yes");
        due("13 no such part", x.acts(1, 1), 0);
        due("14 of no part", x.act(1, 1, 0, 0), -2);
    }

    private static void find() {
        QueryClasses x = new QueryClasses();
        due("15 BAD", x.run(0), -1);
        due("15 no objects", runs(x, "find yes"), 0);
        x.objects(5);
        due("15 all", x.run(0), 5);
        for (int k = 0; k < 5; k++) {
            due("17 in order", x.hit(k), k);
            due("18 no order", x.score(k), 0);
        }
        due("15 odd ones", runs(x, "find row%2=1"), 2);
        due("17", x.hit(1), 3);
        due("15 the first ones", runs(x, "find row>0 first 3"), 3);
        due("17", x.hit(2), 3);
        due("17 no more", x.hit(3), -1);
        due("15 first 0", runs(x, "find yes first 0"), 0);
        due("15 more than there are", runs(x, "find yes first 2147483647"), 5);
        due("15 BAD", x.run(-1), -1);
        due("15 BAD", x.run(5), -1);
        due("16 BAD changes nothing", x.told(5), 4);
        due("15 none", runs(x, "find no"), 0);
    }

    private static void order() {
        QueryClasses x = new QueryClasses();
        x.objects(5);
        x.column(0, 7, 5);
        double[] scores = {2.5, -0.0, 1.0, 0.0, 2.5};
        for (int i = 0; i < 5; i++) x.put(0, i, Calls.bits(scores[i]));
        due("15 order", runs(x, "find yes order $0"), 5);
        int[] rising = {1, 3, 2, 0, 4};
        for (int k = 0; k < 5; k++) {
            due("17 rising", x.hit(k), rising[k]);
            due("18 rising", x.score(k), Calls.bits(scores[rising[k]]));
        }
        due("15 down", runs(x, "find yes order $0 down"), 5);
        int[] falling = {0, 4, 2, 1, 3};
        for (int k = 0; k < 5; k++) due("17 falling", x.hit(k), falling[k]);
        due("15 first of order", runs(x, "find row!=0 order $0 down first 2"), 2);
        due("17", x.hit(0), 4);
        due("17", x.hit(1), 2);
        due("15 order of ints", runs(x, "find yes order 0-row first 1"), 1);
        due("17", x.hit(0), 4);
        due("18 made D", x.score(0), Calls.bits(-4.0));
        due("15 order of likes", runs(x, "find yes order 1 down"), 5);
        for (int k = 0; k < 5; k++) due("17 by OBJECT", x.hit(k), k);
    }

    private static void fold(QueryClasses x, String text, long value) {
        due("15 " + text, runs(x, text), 1);
        due("17 " + text, x.hit(0), x.count(0));
        due("18 " + text, x.score(0), 0);
        due("19 " + text, x.value(0), value);
        x.clear();
    }

    private static void folds() {
        QueryClasses x = new QueryClasses();
        x.objects(3);
        x.column(0, 4, 3);
        x.column(1, 5, 3);
        x.column(2, 6, 3);
        x.column(3, 7, 3);
        int[] ints = {MAX, 5, MAX};
        long[] longs = {Long.MAX_VALUE, 1, -7};
        float[] floats = {-0.0f, 0.0f, -0.0f};
        double[] doubles = {1e308, 1e308, -1.5};
        for (int i = 0; i < 3; i++) {
            x.put(0, i, ints[i]);
            x.put(1, i, longs[i]);
            x.put(2, i, Calls.bits(floats[i]));
            x.put(3, i, Calls.bits(doubles[i]));
        }
        fold(x, "fold count", 3);
        fold(x, "fold sum $0", 2L * MAX + 5);
        fold(x, "fold sum $1", Long.MAX_VALUE + 1 - 7);
        fold(x, "fold sum $2", Calls.bits(0.0));
        fold(x, "fold sum $3", Calls.bits(Double.POSITIVE_INFINITY));
        fold(x, "fold min $0", 5);
        fold(x, "fold max $1", Long.MAX_VALUE);
        fold(x, "fold min $2", Calls.bits(-0.0f));
        fold(x, "fold max $2", Calls.bits(0.0f));
        fold(x, "fold min $3", Calls.bits(-1.5));
        fold(x, "fold max $3", Calls.bits(1e308));
        fold(x, "fold min float($0)", Calls.bits(5f));
        fold(x, "fold max 0.0-$3", Calls.bits(1.5));
    }

    private static void foldsOfNone() {
        QueryClasses x = new QueryClasses();
        String[] hows = {"count", "sum 1", "sum 1.5", "min row", "max 1.5", "mean row", "min float(1)", "max long(1)"};
        for (String how : hows) {
            fold(x, "fold " + how, 0);
            due("15 no groups", runs(x, "fold " + how + " by row"), 0);
            due("19 no groups", x.value(0), Long.MIN_VALUE);
            x.clear();
        }
        x.objects(4);
        due("15 none of them", runs(x, "fold mean 1.5 where no"), 1);
        due("17 none of them", x.hit(0), 0);
        due("19 none of them", x.value(0), 0);
    }

    private static void groups() {
        QueryClasses x = new QueryClasses();
        x.objects(16);
        due("15 groups", runs(x, "fold sum row where row>1 by 7-row%3"), 3);
        long[] keys = {5, 7, 6};
        long[] sums = {2 + 5 + 8 + 11 + 14, 3 + 6 + 9 + 12 + 15, 4 + 7 + 10 + 13};
        int[] many = {5, 5, 4};
        for (int k = 0; k < 3; k++) {
            due("18 key", x.score(k), keys[k]);
            due("19 sum", x.value(k), sums[k]);
            due("17 many", x.hit(k), many[k]);
        }
        due("15 eight groups", runs(x, "fold count by row%8"), 8);
        due("15 a ninth one", runs(x, "fold count by row%9"), -18);
        due("16 ROOM", x.told(0), 6);
        due("16 the fold itself", x.told(1), 3);
        due("16 act 0", x.told(2), 0);
        due("16 acts", x.told(3), 9 * 3);
        due("16 no hits", x.told(4), 0);
        due("17 no hits", x.hit(0), -1);
        due("15 long keys", runs(x, "fold count where row<2 by long(row)<<62"), 2);
        due("18 long key", x.score(1), 1L << 62);
        due("15 likes of I", runs(x, "fold max -row by 0-1"), 1);
        due("18 key -1", x.score(0), -1);
        due("19 max", x.value(0), 0);
    }

    private static void means() {
        QueryClasses x = new QueryClasses();
        x.objects(3);
        x.column(0, 6, 3);
        for (int i = 0; i < 3; i++) x.put(0, i, Calls.bits(0.1f));
        fold(x, "fold mean row*row", Calls.bits(5.0 / 3));
        double sum = 0.0 + (double) 0.1f + (double) 0.1f + (double) 0.1f;
        fold(x, "fold mean $0", Calls.bits(sum / 3));
        fold(x, "fold mean long(1)<<62", Calls.bits((double) (1L << 62)));
        due("15 means by", runs(x, "fold mean row by row/2"), 2);
        due("19", x.value(0), Calls.bits(0.5));
        due("19", x.value(1), Calls.bits(2.0));
    }

    private static void sets() {
        QueryClasses x = new QueryClasses();
        x.objects(4);
        x.column(0, 4, 4);
        x.share(1, 0);
        due("15 set", runs(x, "set $0 := row+1 where row!=1"), 3);
        int[] hits = {0, 2, 3};
        for (int k = 0; k < 3; k++) {
            due("17 those that were set", x.hit(k), hits[k]);
            due("18 no score", x.score(k), 0);
            due("19 no groups", x.value(k), Long.MIN_VALUE);
        }
        int[] cells = {1, 0, 3, 4};
        for (int i = 0; i < 4; i++) due("7 set", x.cell(1, i), cells[i]);
        due("15 each at once", runs(x, "set $1 := row>0 ? $0[row-1]+$0 : 100"), 4);
        int[] sums = {100, 100, 103, 107};
        for (int i = 0; i < 4; i++) due("7 set at once", x.cell(0, i), sums[i]);
        String[] made = {"yes", "300", "70000", "0-1", "2.9", "3000000*long(1000)", "0.1", "0.1"};
        long[] kept = {1, (byte) 300, (short) 70000, 65535, 2, 3000000000L, Calls.bits(0.1f), Calls.bits(0.1)};
        for (int lane = 0; lane < 8; lane++) {
            x.clear();
            x.column(2, lane, 4);
            due("15 set of lane " + lane, runs(x, "set $2 := " + made[lane]), 4);
            due("7 lane " + lane, x.cell(2, 3), kept[lane]);
        }
    }

    private static void fails(QueryClasses x, int q, int object, int fault, int part, int act) {
        due("15 fails", x.run(q), -10 - object);
        due("16 fault", x.told(0), fault);
        due("16 part", x.told(1), part);
        due("16 act", x.told(2), act);
        due("16 hits", x.told(4), 0);
        due("16 query", x.told(5), q);
        due("17 hits", x.hit(0), -1);
        due("18 hits", x.score(0), Long.MIN_VALUE);
        due("19 hits", x.value(0), Long.MIN_VALUE);
    }

    private static void failures() {
        QueryClasses x = new QueryClasses();
        x.objects(3);
        x.column(0, 4, 3);
        x.column(1, 4, 2);
        for (int i = 0; i < 3; i++) x.put(0, i, 10 + i);
        int set = ask(x, "set $0 := 12/(2-row)");
        fails(x, set, 2, 4, 1, 5);
        for (int i = 0; i < 3; i++) due("4 as before", x.cell(0, i), 10 + i);
        int rest = ask(x, "fold sum 1 where 5%(1-row)=0 by row");
        fails(x, rest, 1, 4, 0, 4);
        int index = ask(x, "find $0[row-1]>0");
        fails(x, index, 0, 2, 0, 3);
        int past = ask(x, "set $1 := 5");
        fails(x, past, 2, 2, 1, 2);
        due("7 as before", x.cell(1, 0), 0);
        int load = ask(x, "find yes order $0[0]");
        int by = ask(x, "fold count by $1[0]");
        x.drop(0);
        fails(x, load, 0, 1, 1, 1);
        x.column(0, 5, 0);
        fails(x, load, 0, 3, 1, 1);
        x.column(0, 4, 0);
        fails(x, load, 0, 2, 1, 1);
        x.column(1, 3, 0);
        fails(x, by, 0, 3, 2, 1);
        fails(x, past, 0, 3, 1, 2);
        x.drop(1);
        fails(x, past, 0, 1, 1, 2);
        x.objects(0);
        due("15 none to fail at", x.run(past), 0);
    }

    private static void endlessFolds() {
        QueryClasses x = new QueryClasses();
        x.objects(2);
        String[] hows = {"sum", "mean"};
        for (String how : hows) {
            int q = ask(x, "fold " + how + " row=0 ? 1.0/0.0 : 0.0-1.0/0.0");
            fails(x, q, 1, 5, 3, 0);
        }
        due("15 it ends well", runs(x, "fold max row=0 ? 1.0/0.0 : 0.0-1.0/0.0"), 1);
        due("19", x.value(0), Calls.bits(Double.POSITIVE_INFINITY));
    }

    private static void told() {
        QueryClasses x = new QueryClasses();
        x.objects(4);
        due("15", runs(x, "find row>1 order row"), 2);
        due("16 fault", x.told(0), 0);
        due("16 part", x.told(1), -1);
        due("16 act", x.told(2), -1);
        due("16 acts done", x.told(3), 4 * 4 + 2 * 2);
        due("16 hits", x.told(4), 2);
        due("16 query", x.told(5), 0);
        due("16 BAD", x.told(6), -2);
        due("16 BAD", x.told(-1), -2);
        runs(x, "find yes or no");
        due("16 jumps are done, too", x.told(3), 4 * 3);
        runs(x, "find no or yes");
        due("16 jumps are done, too", x.told(3), 4 * 4);
        runs(x, "find row/(1-row)=0");
        due("16 the one that fails is not done", x.told(3), 8 + 4);
        due("16 query", x.told(5), 3);
    }

    private static void hitScoreValue() {
        QueryClasses x = new QueryClasses();
        due("17", x.hit(0), -1);
        due("18", x.score(0), Long.MIN_VALUE);
        due("19", x.value(0), Long.MIN_VALUE);
        x.objects(2);
        runs(x, "find yes order row");
        due("17", x.hit(1), 1);
        due("17", x.hit(2), -1);
        due("17", x.hit(-1), -1);
        due("18", x.score(1), Calls.bits(1.0));
        due("18", x.score(2), Long.MIN_VALUE);
        due("18", x.score(MIN), Long.MIN_VALUE);
        due("19 no groups", x.value(0), Long.MIN_VALUE);
        runs(x, "fold count");
        due("17", x.hit(0), 2);
        due("18", x.score(0), 0);
        due("19", x.value(0), 2);
        due("19", x.value(1), Long.MIN_VALUE);
        due("19", x.value(-1), Long.MIN_VALUE);
        due("17", x.hit(1), -1);
    }

    private static void count() {
        QueryClasses x = new QueryClasses();
        x.objects(7);
        x.column(3, 0, 0);
        x.share(4, 3);
        ask(x, "find yes");
        Calls.lay(x, "fold");
        due("20", x.count(0), 7);
        due("20", x.count(1), 2);
        due("20", x.count(2), 1);
        due("20", x.count(3), 4);
        due("20", x.count(4), -1);
        due("20", x.count(-1), -1);
    }

    private static void clear() {
        QueryClasses x = new QueryClasses();
        x.objects(2);
        x.column(0, 4, 2);
        runs(x, "fold count");
        ask(x, "find yes");
        Calls.lay(x, "find no");
        due("21", x.clear(), 2);
        due("21 again", x.clear(), 0);
        due("21 no run", x.told(5), -1);
        due("21 no run", x.told(3), 0);
        due("21 no hits", x.told(4), 0);
        due("21 no hits", x.hit(0), -1);
        due("21 no value", x.value(0), Long.MIN_VALUE);
        due("21 no queries", x.run(0), -1);
        due("21 no queries", x.acts(0, 0), -1);
        due("21 objects stay", x.count(0), 2);
        due("21 columns stay", x.count(1), 1);
        due("21 the tape stays", x.count(3), 7);
    }
}
