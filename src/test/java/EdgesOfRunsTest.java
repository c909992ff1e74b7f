/**
 * The boundary cases of promises 15 to 19 and of Terms, 3 and 4: the six FAULTS of a RUN, what
 * wraps, GROUPS (of none, too), the first NUMBER of HITS, and cells that are as before.
 */
public final class EdgesOfRunsTest {
    private static final Calls calls = new Calls();
    private static final int MIN = Integer.MIN_VALUE, MAX = Integer.MAX_VALUE;
    private static final long LOST = Long.MIN_VALUE, LEAST = Long.MIN_VALUE, MOST = Long.MAX_VALUE;
    private static final double ENDLESS = Double.POSITIVE_INFINITY;

    public static void main(String[] args) {
        runOfNoSuchQuery();
        nullRows();
        wrongIndexes();
        wrongCasts();
        castGoesAheadOfIndex();
        divisionsByZero();
        realsAreNotDividedByZero();
        endlessDoubles();
        endlessFloats();
        greatRealsAreNotEndless();
        intsWrap();
        longsWrap();
        shiftsByMoreThanThereAre();
        castsAtTheEnds();
        realsToWholeNumbers();
        roundedAtTheEnds();
        leastAndGreatestZero();
        likeZeros();
        whatIsNotDone();
        partsInTheirOrder();
        firstOfHits();
        ordersAtTheEnds();
        likesByObject();
        groupsUpToEight();
        valuesOfEightGroups();
        groupsOfNone();
        keysAtTheEnds();
        sumsWrap();
        sumsOfReals();
        means();
        extremesOfKinds();
        setsAtOnce();
        failedSetsAreAsBefore();
        failedSetsOfSharedRows();
        aFailureAtEachObject();
        toldBeyond();
        toldOfTheLatestRun();
        toldActsDone();
        hitsBeyond();
        valuesOfGroupsAlone();
        calls.done();
    }

    private static void due(String call, long got, long want) {
        calls.due(call, got, want);
    }

    private static int runs(QueryClasses x, String text) {
        return x.run(Calls.ask(x, text));
    }

    /** An object of one OBJECT, with a LANE's one CELL each in $0 and $1. */
    private static QueryClasses two(int lane, long a, long b) {
        QueryClasses x = new QueryClasses();
        x.objects(1);
        x.column(0, lane, 1);
        x.column(1, lane, 1);
        due("6 put", x.put(0, 0, a), 1);
        due("6 put", x.put(1, 0, b), 1);
        return x;
    }

    private static void answers(QueryClasses x, String sum, long want) {
        due(sum + ": HITS", runs(x, "fold max " + sum), 1);
        due(sum, x.value(0), want);
        x.clear();
    }

    private static void answers(String sum, long want) {
        answers(two(4, 0, 0), sum, want);
    }

    private static void failed(String call, QueryClasses x, int fault, int part, int act) {
        due(call + ": FAULT", x.told(0), fault);
        due(call + ": PART", x.told(1), part);
        due(call + ": ACT", x.told(2), act);
        due(call + ": HITS", x.told(4), 0);
        due(call + ": no HIT", x.hit(0), -1);
        due(call + ": no SCORE", x.score(0), LOST);
        due(call + ": no VALUE", x.value(0), LOST);
    }

    private static void fails(QueryClasses x, String sum, int fault, int act) {
        due(sum, runs(x, "fold max " + sum), -10);
        failed(sum, x, fault, 1, act);
        x.clear();
    }

    private static void runOfNoSuchQuery() {
        QueryClasses x = new QueryClasses();
        for (int q : new int[] {-1, 0, 1, 11, 12, MIN, MAX}) due("15 of none", x.run(q), -1);
        due("16 there was no RUN", x.told(5), -1);
        x.objects(2);
        for (int q = 0; q < 12; q++) {
            due("15 not yet", x.run(q), -1);
            Calls.ask(x, "find yes");
            due("15 now", x.run(q), 2);
            due("16 which", x.told(5), q);
        }
        for (int q : new int[] {-1, 12, 13, MIN, MAX}) due("15 of twelve", x.run(q), -1);
        due("16 the latest one yet", x.told(5), 11);
        due("17 its HITS yet", x.hit(1), 1);
    }

    private static void nullRows() {
        for (int lane = 0; lane < 8; lane++) {
            QueryClasses x = new QueryClasses();
            x.objects(2);
            x.column(9, lane, 2);
            String value = lane == 0 ? "yes" : "1", test = lane == 0 ? "$9" : "$9=0";
            int find = Calls.ask(x, "find yes and " + test), set = Calls.ask(x, "set $9 := " + value);
            due("15 it is there", x.run(find) >= 0 ? 1 : 0, 1);
            x.drop(9);
            due("15 NULL", x.run(find), -10);
            failed("15 NULL", x, 1, 0, 3);
            due("15 NULL of set", x.run(set), -10);
            failed("15 NULL of set", x, 1, 1, x.acts(set, 1) - 1);
            x.column(9, lane, 2);
            due("15 it is there again", x.run(set), 2);
        }
        QueryClasses x = new QueryClasses();
        x.objects(1);
        x.column(0, 4, 1);
        int wild = Calls.ask(x, "fold max $0[0-1]");
        x.share(0, 5);
        due("15 NULL, though no index would do", x.run(wild), -10);
        failed("15 NULL", x, 1, 1, 3);
    }

    private static void wrongIndexes() {
        for (int n = 0; n <= 16; n++) {
            QueryClasses x = new QueryClasses();
            x.objects(1);
            x.column(0, 4, n);
            x.column(1, 4, 1);
            for (int i = 0; i < n; i++) x.put(0, i, 100 + i);
            int q = Calls.ask(x, "fold max $0[$1]");
            for (int index : new int[] {MIN, -1, 0, n - 1, n, 16, MAX}) {
                x.put(1, 0, index);
                boolean there = index >= 0 && index < n;
                due("15 index " + index + " of " + n, x.run(q), there ? 1 : -10);
                if (there) due("19 the CELL", x.value(0), 100 + index);
                else failed("15 INDEX", x, 2, 1, 2);
            }
        }
        for (int n = 0; n <= 16; n++) {
            QueryClasses x = new QueryClasses();
            x.column(0, 4, n);
            int find = Calls.ask(x, "find $0=0"), set = Calls.ask(x, "set $0 := 0");
            for (int objects : new int[] {Math.max(0, n - 1), n, Math.min(16, n + 1)}) {
                x.objects(objects);
                due("15 OBJECTS as many as CELLS", x.run(find), objects <= n ? objects : -10 - n);
                due("15 OBJECTS as many as CELLS", x.run(set), objects <= n ? objects : -10 - n);
                if (objects > n) failed("15 INDEX of set", x, 2, 1, 2);
            }
        }
    }

    private static void wrongCasts() {
        for (int lane = 0; lane < 8; lane++) {
            for (int now = 0; now < 8; now++) {
                QueryClasses x = new QueryClasses();
                x.objects(1);
                x.column(0, lane, 1);
                int load = Calls.ask(x, lane == 0 ? "find $0" : "find $0=0");
                int store = Calls.ask(x, lane == 0 ? "set $0 := no" : "set $0 := 0");
                x.column(0, now, 1);
                due("15 LANE " + lane + ", now " + now, x.run(load), lane != now ? -10 : lane == 0 ? 0 : 1);
                if (lane != now) failed("15 CAST", x, 3, 0, 1);
                due("15 LANE " + lane + ", now " + now, x.run(store), lane == now ? 1 : -10);
                if (lane != now) failed("15 CAST of set", x, 3, 1, x.acts(store, 1) - 1);
            }
        }
    }

    private static void castGoesAheadOfIndex() {
        QueryClasses x = new QueryClasses();
        x.objects(1);
        x.column(0, 4, 1);
        int load = Calls.ask(x, "fold max $0[7]"), store = Calls.ask(x, "set $0 := 7");
        due("15 INDEX", x.run(load), -10);
        failed("15 INDEX", x, 2, 1, 1);
        x.column(0, 5, 0);
        due("15 CAST", x.run(load), -10);
        failed("15 CAST", x, 3, 1, 1);
        due("15 CAST", x.run(store), -10);
        failed("15 CAST", x, 3, 1, 2);
    }

    private static void divisionsByZero() {
        for (int lane = 4; lane < 6; lane++) {
            for (long a : new long[] {0, 1, -1, lane == 4 ? MIN : LEAST, lane == 4 ? MAX : MOST}) {
                QueryClasses x = two(lane, a, 0);
                fails(x, "$0/$1", 4, 4);
                fails(x, "$0%$1", 4, 4);
                x.put(1, 0, 1);
                answers(x, "$0/$1", a);
                answers(x, "$0%$1", 0);
                x.put(1, 0, -1);
                answers(x, "$0/$1", lane == 4 ? (int) -a : -a);
                answers(x, "$0%$1", 0);
            }
        }
        QueryClasses x = two(5, 7, 0);
        fails(x, "1/$1", 4, 4);
        fails(x, "$0%0", 4, 4);
        x = two(1, 7, 0);
        fails(x, "$0/$1", 4, 4);
    }

    private static void realsAreNotDividedByZero() {
        QueryClasses x = two(7, Calls.bits(1.0), 0);
        answers(x, "$0/$1", Calls.bits(ENDLESS));
        answers(x, "-$0/$1", Calls.bits(-ENDLESS));
        answers(x, "1/$1", Calls.bits(ENDLESS));
        x.put(1, 0, Calls.bits(-0.0));
        answers(x, "$0/$1", Calls.bits(-ENDLESS));
        x = two(6, Calls.bits(1f), 0);
        answers(x, "$0/$1", Calls.bits(Float.POSITIVE_INFINITY));
        answers(x, "1/$1", Calls.bits(Float.POSITIVE_INFINITY));
        x.put(1, 0, Calls.bits(-0f));
        answers(x, "$0/$1", Calls.bits(Float.NEGATIVE_INFINITY));
    }

    private static void endlessDoubles() {
        double[] some = {0.0, -0.0, 1.0, -1.0, Double.MIN_VALUE, Double.MAX_VALUE, -Double.MAX_VALUE, ENDLESS, -ENDLESS};
        for (double a : some) {
            for (double b : some) {
                QueryClasses x = two(7, Calls.bits(a), Calls.bits(b));
                double[] made = {a + b, a - b, a * b, a / b, a % b};
                for (int s = 0; s < 5; s++) {
                    String sum = "$0" + "+-*/%".charAt(s) + "$1";
                    if (made[s] != made[s]) fails(x, sum, 5, 4);
                    else answers(x, sum, Calls.bits(made[s]));
                }
            }
        }
    }

    private static void endlessFloats() {
        float[] some = {0f, -0f, 1f, -1f, Float.MIN_VALUE, Float.MAX_VALUE, -Float.MAX_VALUE, 1f / 0f, -1f / 0f};
        for (float a : some) {
            for (float b : some) {
                QueryClasses x = two(6, Calls.bits(a), Calls.bits(b));
                float[] made = {a + b, a - b, a * b, a / b, a % b};
                for (int s = 0; s < 5; s++) {
                    String sum = "$0" + "+-*/%".charAt(s) + "$1";
                    if (made[s] != made[s]) fails(x, sum, 5, 4);
                    else answers(x, sum, Calls.bits(made[s]));
                }
            }
        }
    }

    /** A number that is too great to be told is one yet: no FAULT comes of it. */
    private static void greatRealsAreNotEndless() {
        QueryClasses x = two(7, Calls.bits(Double.MAX_VALUE), Calls.bits(ENDLESS));
        answers(x, "$0*2", Calls.bits(ENDLESS));
        answers(x, "$0+$0", Calls.bits(ENDLESS));
        answers(x, "-$0-$0", Calls.bits(-ENDLESS));
        answers(x, "float($0)", Calls.bits(Float.POSITIVE_INFINITY));
        answers(x, "float($1)", Calls.bits(Float.POSITIVE_INFINITY));
        answers(x, "abs(-$1)", Calls.bits(ENDLESS));
        answers(x, "floor($1)", Calls.bits(ENDLESS));
        answers(x, "ceil(-$1)", Calls.bits(-ENDLESS));
        answers(x, "rint($1)", Calls.bits(ENDLESS));
        answers(x, "sign(-$1)", Calls.bits(-1.0));
        answers(x, "min($0,$1)", Calls.bits(Double.MAX_VALUE));
        answers(x, "max($0,$1)", Calls.bits(ENDLESS));
        answers(x, "$1=$1?1:0", 1);
        answers(x, "$1>$0?1:0", 1);
        answers(x, "1%$1", Calls.bits(1.0));
        answers(x, "1/$1", 0);
    }

    private static void intsWrap() {
        QueryClasses x = two(4, MAX, MIN);
        answers(x, "$0+1", MIN);
        answers(x, "$0+0", MAX);
        answers(x, "$1-1", MAX);
        answers(x, "$0*2", -2);
        answers(x, "$0*$0", 1);
        answers(x, "$1*-1", MIN);
        answers(x, "$1/-1", MIN);
        answers(x, "$1%-1", 0);
        answers(x, "-$1", MIN);
        answers(x, "-$0", MIN + 1);
        answers(x, "abs($1)", MIN);
        answers(x, "abs($1+1)", MAX);
        answers(x, "~$0", MIN);
        answers(x, "$0+long(1)", 1L << 31);
        answers(x, "$1-long(1)", -(1L << 31) - 1);
        answers(x, "abs(long($1))", 1L << 31);
        answers(x, "$0<$1?1:0", 0);
        answers(x, "$1<$0?1:0", 1);
        answers(x, "2147483647+1", MIN);
    }

    private static void longsWrap() {
        QueryClasses x = two(5, MOST, LEAST);
        answers(x, "$0+1", LEAST);
        answers(x, "$1-1", MOST);
        answers(x, "$0*2", -2);
        answers(x, "$1*-1", LEAST);
        answers(x, "$1/-1", LEAST);
        answers(x, "$1%-1", 0);
        answers(x, "-$1", LEAST);
        answers(x, "abs($1)", LEAST);
        answers(x, "abs($1+1)", MOST);
        answers(x, "~$0", LEAST);
        answers(x, "$1<$0?1:0", 1);
        answers(x, "$0<$1?1:0", 0);
        answers(x, "min($0,$1)", LEAST);
        answers(x, "max($0,$1)", MOST);
    }

    private static void shiftsByMoreThanThereAre() {
        for (int by : new int[] {0, 1, 31, 32, 33, 63, 64, 65, -1, MIN, MAX}) {
            QueryClasses x = two(4, -5, by);
            answers(x, "$0<<$1", -5 << by);
            answers(x, "$0>>$1", -5 >> by);
            answers(x, "$0>>>$1", -5 >>> by);
            answers(x, "long($0)<<$1", -5L << by);
            answers(x, "long($0)>>$1", -5L >> by);
            answers(x, "long($0)>>>$1", -5L >>> by);
        }
        QueryClasses x = two(5, -5, (1L << 32) + 1);
        answers(x, "$0<<$1", -10);
        answers(x, "int($0)<<$1", -10);
        answers(x, "$0>>>$1", -5L >>> 1);
        answers(x, "int($0)>>>$1", -5 >>> 1);
    }

    private static void castsAtTheEnds() {
        String[] names = {"byte", "short", "char", "int"};
        long[] edges = {127, 128, -128, -129, 255, 256, 32767, 32768, -32768, -32769, 65535, 65536, -1, MAX, MAX + 1L, MIN,
            MIN - 1L, MOST, LEAST};
        for (long v : edges) {
            QueryClasses x = two(5, v, 0);
            long[] made = {(byte) v, (short) v, (char) v, (int) v};
            for (int n = 0; n < 4; n++) {
                answers(x, names[n] + "($0)", made[n]);
                x.column(2, n + 1, 1);
                due("15 set", runs(x, "set $2 := $0"), 1);
                due("7 set as by casts", x.cell(2, 0), made[n]);
                x.clear();
            }
            answers(x, "float($0)", Calls.bits((float) v));
            answers(x, "double($0)", Calls.bits((double) v));
        }
    }

    private static void realsToWholeNumbers() {
        double[] edges = {2147483646.9, 2147483647.0, 2147483648.0, -2147483648.9, -2147483649.0, 9.2e18, 9.3e18, -9.3e18,
            ENDLESS, -ENDLESS, 0.9, -0.9, -0.0, 65535.9, 65536.0, 4294967296.0};
        for (double v : edges) {
            QueryClasses x = two(7, Calls.bits(v), 0);
            answers(x, "int($0)", (int) v);
            answers(x, "long($0)", (long) v);
            answers(x, "byte($0)", (byte) (int) v);
            answers(x, "short($0)", (short) (int) v);
            answers(x, "char($0)", (char) (int) v);
            answers(x, "float($0)", Calls.bits((float) v));
            float f = (float) v;
            answers(x, "int(float($0))", (int) f);
            answers(x, "long(float($0))", (long) f);
        }
    }

    private static void roundedAtTheEnds() {
        double[] edges = {0.0, -0.0, 0.5, -0.5, 1.5, 2.5, -1.5, -2.5, 0.49999999999999994, -0.49999999999999994, 4503599627370495.5,
            4503599627370496.0, -4503599627370495.5, 9007199254740991.0, Double.MIN_VALUE, -Double.MIN_VALUE, Double.MAX_VALUE};
        for (double v : edges) {
            QueryClasses x = two(7, Calls.bits(v), 0);
            answers(x, "floor($0)", Calls.bits(Math.floor(v)));
            answers(x, "ceil($0)", Calls.bits(Math.ceil(v)));
            answers(x, "rint($0)", Calls.bits(Math.rint(v)));
            answers(x, "sign($0)", Calls.bits(Math.signum(v)));
            answers(x, "abs($0)", Calls.bits(Math.abs(v)));
            answers(x, "sign(float($0))", Calls.bits(Math.signum((float) v)));
        }
        answers("sign(0)", 0);
        answers("sign(-7)", Calls.bits(-1.0));
        answers("sign(7)", Calls.bits(1.0));
        answers("floor(2147483647)", Calls.bits(2147483647.0));
    }

    private static void leastAndGreatestZero() {
        QueryClasses x = two(7, 0, Calls.bits(-0.0));
        answers(x, "min($0,$1)", Calls.bits(-0.0));
        answers(x, "min($1,$0)", Calls.bits(-0.0));
        answers(x, "max($0,$1)", 0);
        answers(x, "max($1,$0)", 0);
        x = two(6, 0, Calls.bits(-0f));
        answers(x, "min($0,$1)", Calls.bits(-0f));
        answers(x, "min($1,$0)", Calls.bits(-0f));
        answers(x, "max($0,$1)", 0);
        answers(x, "max($1,$0)", 0);
    }

    private static void likeZeros() {
        QueryClasses x = two(7, 0, Calls.bits(-0.0));
        answers(x, "$0=$1?1:0", 1);
        answers(x, "$1<$0?1:0", 0);
        answers(x, "$1>=$0?1:0", 1);
        answers(x, "-$0", Calls.bits(-0.0));
        answers(x, "-$1", 0);
        answers(x, "$0-$0", 0);
        answers(x, "$1+$1", Calls.bits(-0.0));
        answers(x, "$0+$1", 0);
        answers(x, "$1*1", Calls.bits(-0.0));
    }

    private static void whatIsNotDone() {
        answers("no and 1/0=1?1:2", 2);
        answers("yes or 1/0=1?1:2", 1);
        answers("yes?3:1/0", 3);
        answers("no?1/0:4", 4);
        QueryClasses x = two(4, 0, 0);
        fails(x, "yes and 1/0=1?1:2", 4, 4);
        fails(x, "no or 1/0=1?1:2", 4, 4);
        fails(x, "yes?1/0:4", 4, 4);
        fails(x, "no?3:1/0", 4, 6);
        fails(x, "no&(1/0=1)?1:2", 4, 3);
    }

    private static void partsInTheirOrder() {
        QueryClasses x = new QueryClasses();
        x.objects(1);
        due("15", runs(x, "fold max 1/0 where 1/0=1 by 1/0"), -10);
        failed("15 where", x, 4, 0, 2);
        due("15", runs(x, "fold max 1/0 where yes by 1/0"), -10);
        failed("15 how", x, 4, 1, 2);
        due("15", runs(x, "fold max 1 where yes by 1/0"), -10);
        failed("15 by", x, 4, 2, 2);
        due("15 an OBJECT that is passed by", runs(x, "fold max 1/0 where no by 1/0"), 0);
        due("15 an OBJECT that is passed by", runs(x, "find no order 1/0"), 0);
        due("15 an OBJECT that isn't", runs(x, "find yes order 1/0"), -10);
        failed("15 order", x, 4, 1, 2);
        due("15 first 0 goes through all, too", runs(x, "find yes order 1/0 first 0"), -10);
        x.objects(4);
        due("15 first 1 goes through all, too", runs(x, "find 1/(3-row)!=9 first 1"), -13);
        x.column(0, 4, 1);
        due("15 an OBJECT that is passed by", runs(x, "set $0 := 1/0 where no"), 0);
    }

    private static void firstOfHits() {
        for (int objects : new int[] {0, 1, 5, 16}) {
            for (int first : new int[] {0, 1, objects - 1, objects, objects + 1, 17, MAX}) {
                if (first < 0) continue;
                QueryClasses x = new QueryClasses();
                x.objects(objects);
                int due = Math.min(objects, first);
                String[] texts = {"find yes first " + first, "find yes order row first " + first,
                    "find yes order row down first " + first};
                for (int t = 0; t < 3; t++) {
                    due("15 " + texts[t] + " of " + objects, runs(x, texts[t]), due);
                    due("16 HITS", x.told(4), due);
                    due("17 the first", x.hit(0), due == 0 ? -1 : t == 2 ? objects - 1 : 0);
                    due("17 the last", x.hit(due - 1), due == 0 ? -1 : t == 2 ? objects - due : due - 1);
                    due("17 none behind it", x.hit(due), -1);
                    due("18 none behind it", x.score(due), LOST);
                }
                int odd = (objects + 1) / 2;
                due("15 of those that were found", runs(x, "find row%2=0 first " + first), Math.min(odd, first));
            }
        }
    }

    private static void ordersAtTheEnds() {
        QueryClasses x = new QueryClasses();
        x.objects(6);
        x.column(0, 7, 6);
        double[] scores = {1.0, -ENDLESS, Double.MAX_VALUE, ENDLESS, -Double.MAX_VALUE, -Double.MIN_VALUE};
        for (int i = 0; i < 6; i++) x.put(0, i, Calls.bits(scores[i]));
        int[] rising = {1, 4, 5, 0, 2, 3};
        due("15", runs(x, "find yes order $0"), 6);
        for (int k = 0; k < 6; k++) {
            due("17 rising", x.hit(k), rising[k]);
            due("18 rising", x.score(k), Calls.bits(scores[rising[k]]));
        }
        due("15", runs(x, "find yes order $0 down"), 6);
        for (int k = 0; k < 6; k++) {
            due("17 falling", x.hit(k), rising[5 - k]);
            due("18 falling", x.score(k), Calls.bits(scores[rising[5 - k]]));
        }
        x.column(1, 5, 6);
        for (int i = 0; i < 6; i++) x.put(1, i, MOST - i);
        due("15 likes as doubles", runs(x, "find yes order $1"), 6);
        for (int k = 0; k < 6; k++) {
            due("17 likes as doubles", x.hit(k), k);
            due("18 made D", x.score(k), Calls.bits((double) MOST));
        }
        due("15 without order", runs(x, "find $0>0"), 3);
        for (int k = 0; k < 3; k++) due("18 0.0 without order", x.score(k), 0);
    }

    private static void likesByObject() {
        QueryClasses x = new QueryClasses();
        x.objects(16);
        int[] rising = {0, 3, 6, 9, 12, 15, 1, 4, 7, 10, 13, 2, 5, 8, 11, 14};
        int[] falling = {2, 5, 8, 11, 14, 1, 4, 7, 10, 13, 0, 3, 6, 9, 12, 15};
        due("15", runs(x, "find yes order row%3"), 16);
        for (int k = 0; k < 16; k++) due("17 rising", x.hit(k), rising[k]);
        due("15", runs(x, "find yes order row%3 down"), 16);
        for (int k = 0; k < 16; k++) due("17 falling", x.hit(k), falling[k]);
        due("15", runs(x, "find yes order row%3 down first 6"), 6);
        for (int k = 0; k < 6; k++) due("17 the first of them", x.hit(k), falling[k]);
        due("15 all alike", runs(x, "find yes order row-row down"), 16);
        for (int k = 0; k < 16; k++) due("17 all alike", x.hit(k), k);
    }

    private static void groupsUpToEight() {
        for (int groups = 1; groups <= 10; groups++) {
            for (String how : new String[] {"count", "sum 1", "max 1.5", "mean 1"}) {
                QueryClasses x = new QueryClasses();
                x.objects(16);
                String text = "fold " + how + " by row%" + groups;
                if (groups > 8) {
                    due("15 " + text, runs(x, text), -18);
                    failed("15 ROOM", x, 6, 3, 0);
                    continue;
                }
                due("15 " + text, runs(x, text), groups);
                for (int k = 0; k < groups; k++) {
                    due("18 KEY", x.score(k), k);
                    due("17 how many", x.hit(k), (16 - k + groups - 1) / groups);
                }
                due("17 none behind them", x.hit(groups), -1);
                due("18 none behind them", x.score(groups), LOST);
                due("19 none behind them", x.value(groups), LOST);
            }
        }
        QueryClasses x = new QueryClasses();
        x.objects(16);
        due("15 the ninth one comes last", runs(x, "fold count by row<15?row%8:8"), -25);
        failed("15 ROOM", x, 6, 3, 0);
        due("15 the ninth one is passed by", runs(x, "fold count where row<15 by row<15?row%8:8"), 8);
        x.objects(8);
        due("15 just eight", runs(x, "fold count by row"), 8);
        x.objects(9);
        due("15 one more", runs(x, "fold count by row"), -18);
    }

    /** Each of the GROUPS, the last one too, has its own VALUE: OBJECTS k and k + 8 are GROUP k. */
    private static void valuesOfEightGroups() {
        QueryClasses x = new QueryClasses();
        x.objects(16);
        for (int groups = 7; groups <= 8; groups++) {
            String[] hows = {"count", "sum row", "sum row+0.5", "min row", "max row", "mean row", "mean row+0.25"};
            for (String how : hows) {
                String text = "fold " + how + " where row%8<" + groups + " by row%8";
                due("15 " + text, runs(x, text), groups);
                for (int k = 0; k < groups; k++) {
                    long[] due = {2, 2 * k + 8, Calls.bits(2.0 * k + 9), k, k + 8, Calls.bits(k + 4.0), Calls.bits(k + 4.25)};
                    due("17 " + text + " of " + k, x.hit(k), 2);
                    due("18 " + text + " of " + k, x.score(k), k);
                    due("19 " + text + " of " + k, x.value(k), due[java.util.Arrays.asList(hows).indexOf(how)]);
                }
                due("19 " + text + ": none behind them", x.value(groups), LOST);
                x.clear();
            }
        }
    }

    private static void groupsOfNone() {
        String[] hows = {"count", "sum 1", "sum long(1)", "sum float(1)", "sum 1.5", "min 1", "min long(1)", "min float(1)",
            "min 1.5", "max 1", "max 1.5", "mean 1", "mean 1.5", "max -1.5", "mean 1/0", "sum 1/0"};
        for (int objects = 0; objects < 4; objects += 3) {
            QueryClasses x = new QueryClasses();
            x.objects(objects);
            for (String how : hows) {
                String text = "fold " + how + (objects == 0 ? "" : " where no");
                due("15 " + text + ": one", runs(x, text), 1);
                due("17 of none", x.hit(0), 0);
                due("18 KEY 0", x.score(0), 0);
                due("19 0", x.value(0), 0);
                due("17 one alone", x.hit(1), -1);
                x.clear();
                due("15 " + text + " by row: none", runs(x, text + " by row"), 0);
                due("17 none", x.hit(0), -1);
                due("18 none", x.score(0), LOST);
                due("19 none", x.value(0), LOST);
                due("16 no FAULT", x.told(0), 0);
                x.clear();
            }
        }
    }

    private static void keysAtTheEnds() {
        QueryClasses x = new QueryClasses();
        x.objects(4);
        x.column(0, 5, 4);
        long[] keys = {LEAST, MOST, LEAST, -1};
        for (int i = 0; i < 4; i++) x.put(0, i, keys[i]);
        due("15", runs(x, "fold count by $0"), 3);
        due("18", x.score(0), LEAST);
        due("18", x.score(1), MOST);
        due("18", x.score(2), -1);
        due("17", x.hit(0), 2);
        due("15 KEYS that differ in their highest bits", runs(x, "fold count by long(row)<<32"), 4);
        due("18", x.score(3), 3L << 32);
        due("15 of I", runs(x, "fold count by int($0)"), 2);
        due("18", x.score(0), 0);
        due("18", x.score(1), -1);
        due("15 without by", runs(x, "fold count"), 1);
        due("18 0 without by", x.score(0), 0);
        due("17 all", x.hit(0), 4);
    }

    private static QueryClasses three(int lane, long a, long b, long c) {
        QueryClasses x = new QueryClasses();
        x.objects(3);
        x.column(0, lane, 3);
        long[] cells = {a, b, c};
        for (int i = 0; i < 3; i++) due("6 put", x.put(0, i, cells[i]), 1);
        return x;
    }

    private static void folds(QueryClasses x, String how, long want) {
        due("15 fold " + how, runs(x, "fold " + how), 1);
        due("17 how many", x.hit(0), 3);
        due("19 fold " + how, x.value(0), want);
        x.clear();
    }

    private static void sumsWrap() {
        folds(three(5, MOST, 1, 0), "sum $0", LEAST);
        folds(three(5, LEAST, -1, 0), "sum $0", MOST);
        folds(three(5, LEAST, LEAST, 3), "sum $0", 3);
        folds(three(5, MOST, 0, 0), "sum $0", MOST);
        folds(three(4, MAX, MAX, MAX), "sum $0", 3L * MAX);
        folds(three(4, MIN, MIN, MIN), "sum $0", 3L * MIN);
        folds(three(1, 127, 127, 127), "sum $0", 381);
        folds(three(3, 65535, 65535, 65535), "sum $0", 196605);
        folds(three(4, MAX, MAX, MAX), "sum $0+1", 3L * MIN);
    }

    private static void sumsOfReals() {
        long inf = Calls.bits(ENDLESS), less = Calls.bits(-ENDLESS), most = Calls.bits(Double.MAX_VALUE);
        folds(three(7, Calls.bits(-0.0), Calls.bits(-0.0), Calls.bits(-0.0)), "sum $0", 0);
        folds(three(7, most, most, 0), "sum $0", inf);
        folds(three(7, inf, inf, 0), "sum $0", inf);
        folds(three(7, less, most, less), "sum $0", less);
        folds(three(6, Calls.bits(Float.MAX_VALUE), Calls.bits(Float.MAX_VALUE), 0), "sum $0",
            Calls.bits((double) Float.MAX_VALUE * 2));
        folds(three(6, Calls.bits(16777216f), Calls.bits(1f), Calls.bits(1f)), "sum $0", Calls.bits(16777218.0));
        folds(three(7, Calls.bits(0.1), Calls.bits(0.2), Calls.bits(0.3)), "sum $0", Calls.bits(0.0 + 0.1 + 0.2 + 0.3));
        for (String how : new String[] {"sum", "mean"}) {
            QueryClasses x = three(7, inf, Calls.bits(1.0), less);
            due("15 ENDLESS", runs(x, "fold " + how + " $0"), -12);
            failed("15 ENDLESS", x, 5, 3, 0);
            due("16 ACTS", x.told(3), 6);
            x = three(7, less, inf, 0);
            due("15 ENDLESS", runs(x, "fold " + how + " $0"), -11);
            failed("15 ENDLESS", x, 5, 3, 0);
            due("15 in GROUPS of their own", runs(x, "fold " + how + " $0 by row"), 3);
            due("19", x.value(0), less);
            due("19", x.value(1), inf);
            x = three(7, most, most, less);
            due("15 what was too great", runs(x, "fold " + how + " $0"), -12);
            failed("15 ENDLESS", x, 5, 3, 0);
            x = three(6, Calls.bits(1f / 0f), Calls.bits(-1f / 0f), 0);
            due("15 of floats", runs(x, "fold " + how + " $0"), -11);
            failed("15 ENDLESS", x, 5, 3, 0);
        }
    }

    private static void means() {
        folds(three(5, MOST, MOST, MOST), "mean $0", Calls.bits(3.0 * MOST / 3.0));
        folds(three(4, MAX, MAX, MAX), "mean $0", Calls.bits((double) MAX));
        folds(three(4, 1, 2, 5), "mean $0", Calls.bits(8.0 / 3));
        folds(three(5, (1L << 53) + 1, 0, 0), "mean $0", Calls.bits((double) (1L << 53) / 3));
        folds(three(7, Calls.bits(-0.0), Calls.bits(-0.0), Calls.bits(-0.0)), "mean $0", 0);
        folds(three(7, Calls.bits(Double.MAX_VALUE), Calls.bits(Double.MAX_VALUE), 0), "mean $0", Calls.bits(ENDLESS));
        folds(three(7, Calls.bits(Double.MIN_VALUE), 0, 0), "mean $0", Calls.bits(Double.MIN_VALUE / 3));
        QueryClasses x = three(4, 7, 8, 9);
        due("15 of one", runs(x, "fold mean $0 where row=2"), 1);
        due("17 of one", x.hit(0), 1);
        due("19 of one", x.value(0), Calls.bits(9.0));
    }

    private static void extremesOfKinds() {
        long plus = 0, minus = Calls.bits(-0.0), minusFloat = Calls.bits(-0f);
        folds(three(7, plus, minus, plus), "min $0", minus);
        folds(three(7, minus, plus, minus), "max $0", plus);
        folds(three(6, plus, minusFloat, plus), "min $0", minusFloat);
        folds(three(6, minusFloat, plus, minusFloat), "max $0", plus);
        folds(three(5, LEAST, 0, MOST), "min $0", LEAST);
        folds(three(5, LEAST, 0, MOST), "max $0", MOST);
        folds(three(4, MIN, 0, MAX), "min $0", MIN);
        folds(three(4, MIN, 0, MAX), "max $0", MAX);
        folds(three(4, 3, 4, 5), "min $0", 3);
        folds(three(4, -3, -4, -5), "max $0", -3);
        folds(three(7, Calls.bits(ENDLESS), Calls.bits(-ENDLESS), 0), "min $0", Calls.bits(-ENDLESS));
        folds(three(7, Calls.bits(ENDLESS), Calls.bits(-ENDLESS), 0), "max $0", Calls.bits(ENDLESS));
        folds(three(6, Calls.bits(-1.5f), Calls.bits(-2.5f), Calls.bits(-3.5f)), "max $0", Calls.bits(-1.5f));
        folds(three(3, 65535, 1, 2), "max $0", 65535);
        folds(three(1, -128, 127, 0), "min $0", -128);
    }

    private static void setsAtOnce() {
        QueryClasses x = three(4, 1, 0, 0);
        due("15", runs(x, "set $0 := row=0 ? $0 : $0[row-1]*2"), 3);
        for (int i = 0; i < 3; i++) due("7 of what was set before", x.cell(0, i), 1 << i);
        due("15 where sees it, too", runs(x, "set $0 := 9 where row=0 or $0[row-1]=9"), 3);
        for (int i = 0; i < 3; i++) due("7", x.cell(0, i), 9);
        due("15 none of them", runs(x, "set $0 := 7 where no"), 0);
        for (int i = 0; i < 3; i++) due("7", x.cell(0, i), 9);
        due("15 the last one alone", runs(x, "set $0 := 7 where row=2"), 1);
        due("17", x.hit(0), 2);
        due("18 no SCORE", x.score(0), 0);
        due("19 no GROUP", x.value(0), LOST);
        x.objects(0);
        due("15 of none", runs(x, "set $0 := 1"), 0);
        due("7", x.cell(0, 0), 9);
    }

    /** Each sort of FAULT that may come while CELLS are set. */
    private static void failedSetsAreAsBefore() {
        String[] sums = {"1/(2-row)", "$1", "$2[5-row*2]", "int($3/$3)", "$4[row]", "5%(2-row)"};
        int[] faults = {4, 2, 2, 5, 1, 4};
        int[] objects = {2, 2, 0, 2, 0, 2};
        for (int s = 0; s < sums.length; s++) {
            QueryClasses x = three(4, 11, 12, 13);
            x.column(1, 4, 2);
            x.column(2, 4, 5);
            x.column(3, 7, 3);
            x.put(3, 0, Calls.bits(1.0));
            x.put(3, 1, Calls.bits(1.0));
            x.column(4, 4, 3);
            int q = Calls.ask(x, "set $0 := " + sums[s]);
            x.drop(4);
            due("15 " + sums[s], x.run(q), -10 - objects[s]);
            due("16 " + sums[s], x.told(0), faults[s]);
            for (int i = 0; i < 3; i++) due("4 as before " + sums[s], x.cell(0, i), 11 + i);
        }
        QueryClasses x = three(4, 11, 12, 13);
        due("15 by where", runs(x, "set $0 := 5 where 1/(2-row)!=9"), -12);
        failed("15 by where", x, 4, 0, 4);
        for (int i = 0; i < 3; i++) due("4 as before", x.cell(0, i), 11 + i);
        x.objects(4);
        due("15 past the row's end", runs(x, "set $0 := 5"), -13);
        failed("15 past the row's end", x, 2, 1, 2);
        for (int i = 0; i < 3; i++) due("4 as before", x.cell(0, i), 11 + i);
        x.objects(3);
        due("15 it can be set yet", runs(x, "set $0 := 5"), 3);
        due("15 a later RUN that fails", runs(x, "set $0 := 1/(1-row)"), -11);
        for (int i = 0; i < 3; i++) due("4 what an earlier RUN set stays", x.cell(0, i), 5);
    }

    private static void failedSetsOfSharedRows() {
        for (int lane = 0; lane < 8; lane++) {
            QueryClasses x = new QueryClasses();
            x.objects(16);
            x.column(0, lane, 16);
            x.share(9, 0);
            x.share(5, 9);
            x.put(5, 3, 1);
            String value = lane == 0 ? "1/(15-row)=99 or not $9" : "$9+1+1/(15-row)";
            due("15 at the last one", runs(x, "set $5 := " + value), -25);
            due("16 ZERO", x.told(0), 4);
            for (int i = 0; i < 16; i++) due("4 as before", x.cell(0, i), i == 3 ? 1 : 0);
            due("8 the same one yet", x.about(9, 2), 0);
        }
    }

    private static void aFailureAtEachObject() {
        for (int object = 0; object < 16; object++) {
            QueryClasses x = new QueryClasses();
            x.objects(16);
            due("15 at " + object, runs(x, "find row/(" + object + "-row)>=0-99"), -10 - object);
            failed("15 at " + object, x, 4, 0, 4);
            due("16 ACTS done", x.told(3), 10 * object + 4);
            x.objects(object);
            due("15 not so far", x.run(0), object);
        }
    }

    private static void toldBeyond() {
        QueryClasses x = new QueryClasses();
        for (int what : new int[] {-1, 6, MIN, MAX}) due("16 before a RUN", x.told(what), -2);
        runs(x, "find yes");
        for (int what : new int[] {-1, 6, MIN, MAX}) due("16 after a RUN", x.told(what), -2);
    }

    private static void toldOfTheLatestRun() {
        QueryClasses x = new QueryClasses();
        x.objects(2);
        int good = Calls.ask(x, "find yes"), bad = Calls.ask(x, "find 1/row=1"), fold = Calls.ask(x, "fold count by row");
        due("16 NONE before one", x.told(5), -1);
        x.run(bad);
        due("16 its FAULT", x.told(0), 4);
        due("16 its query", x.told(5), 1);
        x.run(good);
        int[] told = {0, -1, -1, 2, 2, 0};
        for (int what = 0; what < 6; what++) due("16 a good one after a bad one", x.told(what), told[what]);
        x.run(bad);
        due("17 HITS of the one before are gone", x.hit(0), -1);
        due("16 HITS", x.told(4), 0);
        x.run(fold);
        due("19 GROUPS", x.value(0), 1);
        x.run(bad);
        due("19 GROUPS of the one before are gone", x.value(0), LOST);
        x.run(good);
        due("19 no GROUPS", x.value(0), LOST);
        x.objects(16);
        x.column(0, 4, 1);
        Calls.ask(x, "find");
        due("16 nothing but a RUN changes it", x.told(4), 2);
        due("17 nothing but a RUN changes it", x.hit(1), 1);
    }

    private static void toldActsDone() {
        QueryClasses x = new QueryClasses();
        due("16 none", x.told(3), 0);
        runs(x, "find yes");
        due("16 of no OBJECTS", x.told(3), 0);
        x.objects(16);
        x.run(0);
        due("16 one each", x.told(3), 16);
        runs(x, "fold count");
        due("16 no PART", x.told(3), 0);
        runs(x, "find row<4 order row");
        due("16 PART 1 of those alone that aren't passed by", x.told(3), 16 * 4 + 4 * 2);
        runs(x, "fold max row where row<4 by row");
        due("16 three PARTS", x.told(3), 16 * 4 + 4 + 4);
        runs(x, "find row<4 or yes");
        due("16 what is jumped over isn't done", x.told(3), 4 * 6 + 12 * 7);
        runs(x, "fold max row<4?1:2");
        due("16 what is jumped over isn't done", x.told(3), 4 * 7 + 12 * 6);
        x.objects(1);
        runs(x, "fold max 1/0");
        due("16 the one that fails isn't done", x.told(3), 2);
    }

    private static void hitsBeyond() {
        QueryClasses x = new QueryClasses();
        for (int hits : new int[] {0, 1, 16}) {
            x.objects(hits);
            due("15", runs(x, "find yes order row"), hits);
            for (int k : new int[] {-1, hits, 16, MIN, MAX}) {
                due("17 hit(" + k + ")", x.hit(k), -1);
                due("18 score(" + k + ")", x.score(k), LOST);
                due("19 value(" + k + ")", x.value(k), LOST);
            }
            if (hits == 0) continue;
            due("17 the last", x.hit(hits - 1), hits - 1);
            due("18 the last", x.score(hits - 1), Calls.bits((double) (hits - 1)));
        }
        x.objects(8);
        due("15", runs(x, "fold sum row by row"), 8);
        for (int k : new int[] {-1, 8, 16, MIN, MAX}) {
            due("17 hit(" + k + ")", x.hit(k), -1);
            due("18 score(" + k + ")", x.score(k), LOST);
            due("19 value(" + k + ")", x.value(k), LOST);
        }
        due("17 the last", x.hit(7), 1);
        due("18 the last", x.score(7), 7);
        due("19 the last", x.value(7), 7);
    }

    private static void valuesOfGroupsAlone() {
        QueryClasses x = three(4, 1, 2, 3);
        runs(x, "fold max $0");
        due("19 of a GROUP", x.value(0), 3);
        runs(x, "find yes");
        due("19 of find", x.value(0), LOST);
        runs(x, "fold max $0");
        runs(x, "set $0 := 4");
        due("19 of set", x.value(0), LOST);
        runs(x, "fold min -1");
        due("19 I as they are", x.value(0), -1);
        runs(x, "fold min -float(1)");
        due("19 F by their bits, as an int", x.value(0), Calls.bits(-1f));
        runs(x, "fold min -1.0");
        due("19 D by their bits", x.value(0), Calls.bits(-1.0));
    }
}
