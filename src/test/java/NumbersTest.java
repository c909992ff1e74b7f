import java.util.Random;

/** What ACTS lay, against what Java itself has: all KINDS, their edges, and random numbers. */
public final class NumbersTest {
    private static final Calls calls = new Calls();
    private static final Random random = new Random(20261116);
    private static final int ENDLESS = 5, ZERO = 4;

    private static final int[] INTS = {0, 1, -1, 2, -2, 7, -7, 31, 32, 33, 255, 256, -129, 65535, 65536, 40000,
        Integer.MAX_VALUE, Integer.MIN_VALUE, 16777217, 123456789};
    private static final long[] LONGS = {0, 1, -1, 3, -3, 63, 64, 1L << 32, 1L << 53, (1L << 53) + 1, (1L << 62) + 1,
        Long.MAX_VALUE, Long.MIN_VALUE, 4294967297L, -9007199254740993L, 1L << 24, (1L << 24) + 1};
    private static final float[] FLOATS = {0f, -0f, 1f, -1f, 0.5f, -0.5f, 1.5f, 2.5f, 0.1f, -3.7f, Float.MAX_VALUE,
        -Float.MAX_VALUE, Float.MIN_VALUE, -Float.MIN_VALUE, Float.MIN_NORMAL, 1.1754942E-38f, 1e-40f, 3e38f, 16777216f,
        8388607.5f, Float.POSITIVE_INFINITY, Float.NEGATIVE_INFINITY, 2147483648f, 9.223372E18f};
    private static final double[] DOUBLES = {0d, -0d, 1d, -1d, 0.5, -0.5, 1.5, -1.5, 2.5, -2.5, 0.1, -3.7, 0.49999999999999994,
        Double.MAX_VALUE, -Double.MAX_VALUE, Double.MIN_VALUE, -Double.MIN_VALUE, Double.MIN_NORMAL,
        2.225073858507201E-308, 1e-310, 1e-45, 7e-46, 1e39, 4503599627370495.5, 4503599627370496.0, 9007199254740993.0,
        Double.POSITIVE_INFINITY, Double.NEGATIVE_INFINITY, 2147483648.5, -2147483649.0, 9.3e18, 1e-300, 1e300};

    public static void main(String[] args) {
        for (int a : INTS) {
            oneInt(a);
            for (int b : INTS) ints(a, b);
        }
        for (long a : LONGS) {
            oneLong(a);
            for (long b : LONGS) longs(a, b);
        }
        for (float a : FLOATS) {
            oneFloat(a);
            for (float b : FLOATS) floats(a, b);
        }
        for (double a : DOUBLES) {
            oneDouble(a);
            for (double b : DOUBLES) doubles(a, b);
        }
        for (int i = 0; i < 1500; i++) randomOnes();
        reals();
        truths();
        calls.done();
    }

    private static void randomOnes() {
        int a = random.nextInt(), b = random.nextInt() >> random.nextInt(32);
        ints(a, b);
        oneInt(b);
        long c = random.nextLong(), d = random.nextLong() >> random.nextInt(64);
        longs(c, d);
        oneLong(d);
        float e = Float.intBitsToFloat(random.nextInt()), f = Float.intBitsToFloat(random.nextInt());
        if (e == e && f == f) {
            floats(e, f);
            oneFloat(e);
            floats(f, f * (random.nextInt(200) - 100));
        }
        double g = Double.longBitsToDouble(random.nextLong()), h = Double.longBitsToDouble(random.nextLong());
        if (g == g && h == h) {
            doubles(g, h);
            oneDouble(g);
            oneDouble((random.nextInt(4000) - 2000) / 4.0);
            doubles(random.nextInt() / 64.0, random.nextInt() / 1024.0);
        }
    }

    private static QueryClasses made(int lane, long a, long b) {
        QueryClasses x = new QueryClasses();
        x.objects(1);
        x.column(0, lane, 1);
        x.column(1, lane, 1);
        x.put(0, 0, a);
        x.put(1, 0, b);
        return x;
    }

    /** fold max of one OBJECT answers the sum itself. */
    private static void due(QueryClasses x, String sum, long want) {
        int q = Calls.ask(x, "fold max " + sum);
        int got = x.run(q);
        String of = sum + " of " + x.cell(0, 0) + ", " + x.cell(1, 0);
        calls.due(of, got, 1);
        calls.due(of, x.value(0), want);
        x.clear();
    }

    private static void fails(QueryClasses x, String sum, int fault) {
        int got = x.run(Calls.ask(x, "fold max " + sum));
        String of = sum + " of " + x.cell(0, 0) + ", " + x.cell(1, 0);
        calls.due(of, got, -10);
        calls.due(of, x.told(0), fault);
        calls.due(of, x.told(1), 1);
        x.clear();
    }

    private static void compares(QueryClasses x, int order) {
        String[] signs = {"=", "!=", "<", ">", "<=", ">="};
        boolean[] holds = {order == 0, order != 0, order < 0, order > 0, order <= 0, order >= 0};
        for (int s = 0; s < 6; s++) due(x, "$0" + signs[s] + "$1?1:0", holds[s] ? 1 : 0);
    }

    private static void ints(int a, int b) {
        QueryClasses x = made(4, a, b);
        due(x, "$0+$1", a + b);
        due(x, "$0-$1", a - b);
        due(x, "$0*$1", a * b);
        if (b == 0) fails(x, "$0/$1", ZERO);
        else due(x, "$0/$1", a / b);
        if (b == 0) fails(x, "$0%$1", ZERO);
        else due(x, "$0%$1", a % b);
        due(x, "$0&$1", a & b);
        due(x, "$0|$1", a | b);
        due(x, "$0^$1", a ^ b);
        due(x, "$0<<$1", a << b);
        due(x, "$0>>$1", a >> b);
        due(x, "$0>>>$1", a >>> b);
        due(x, "min($0,$1)", Math.min(a, b));
        due(x, "max($0,$1)", Math.max(a, b));
        compares(x, Integer.compare(a, b));
    }

    private static void oneInt(int a) {
        QueryClasses x = made(4, a, 0);
        due(x, "-$0", -a);
        due(x, "~$0", ~a);
        due(x, "abs($0)", Math.abs(a));
        due(x, "sign($0)", Calls.bits(Math.signum((double) a)));
        due(x, "floor($0)", Calls.bits((double) a));
        due(x, "byte($0)", (byte) a);
        due(x, "short($0)", (short) a);
        due(x, "char($0)", (char) a);
        due(x, "int($0)", a);
        due(x, "long($0)", a);
        due(x, "float($0)", Calls.bits((float) a));
        due(x, "double($0)", Calls.bits((double) a));
    }

    private static void longs(long a, long b) {
        QueryClasses x = made(5, a, b);
        due(x, "$0+$1", a + b);
        due(x, "$0-$1", a - b);
        due(x, "$0*$1", a * b);
        if (b == 0) fails(x, "$0/$1", ZERO);
        else due(x, "$0/$1", a / b);
        if (b == 0) fails(x, "$0%$1", ZERO);
        else due(x, "$0%$1", a % b);
        due(x, "$0&$1", a & b);
        due(x, "$0|$1", a | b);
        due(x, "$0^$1", a ^ b);
        due(x, "$0<<$1", a << (int) b);
        due(x, "$0>>$1", a >> (int) b);
        due(x, "$0>>>$1", a >>> (int) b);
        due(x, "min($0,$1)", Math.min(a, b));
        due(x, "max($0,$1)", Math.max(a, b));
        compares(x, Long.compare(a, b));
    }

    private static void oneLong(long a) {
        QueryClasses x = made(5, a, 0);
        due(x, "-$0", -a);
        due(x, "~$0", ~a);
        due(x, "abs($0)", Math.abs(a));
        due(x, "sign($0)", Calls.bits(Math.signum((double) a)));
        due(x, "ceil($0)", Calls.bits((double) a));
        due(x, "byte($0)", (byte) a);
        due(x, "short($0)", (short) a);
        due(x, "char($0)", (char) a);
        due(x, "int($0)", (int) a);
        due(x, "float($0)", Calls.bits((float) a));
        due(x, "double($0)", Calls.bits((double) a));
    }

    private static void dueFloat(QueryClasses x, String sum, float want) {
        if (want != want) fails(x, sum, ENDLESS);
        else due(x, sum, Calls.bits(want));
    }

    private static void floats(float a, float b) {
        if (a != a || b != b) return;
        QueryClasses x = made(6, Calls.bits(a), Calls.bits(b));
        dueFloat(x, "$0+$1", a + b);
        dueFloat(x, "$0-$1", a - b);
        dueFloat(x, "$0*$1", a * b);
        dueFloat(x, "$0/$1", a / b);
        dueFloat(x, "$0%$1", a % b);
        dueFloat(x, "min($0,$1)", Math.min(a, b));
        dueFloat(x, "max($0,$1)", Math.max(a, b));
        compares(x, a < b ? -1 : a > b ? 1 : 0);
    }

    private static void oneFloat(float a) {
        QueryClasses x = made(6, Calls.bits(a), 0);
        dueFloat(x, "-$0", -a);
        dueFloat(x, "abs($0)", Math.abs(a));
        dueFloat(x, "sign($0)", Math.signum(a));
        dueDouble(x, "floor($0)", Math.floor(a));
        dueDouble(x, "ceil($0)", Math.ceil(a));
        dueDouble(x, "rint($0)", Math.rint(a));
        due(x, "byte($0)", (byte) (int) a);
        due(x, "short($0)", (short) (int) a);
        due(x, "char($0)", (char) (int) a);
        due(x, "int($0)", (int) a);
        due(x, "long($0)", (long) a);
        dueFloat(x, "float($0)", a);
        dueDouble(x, "double($0)", (double) a);
    }

    private static void dueDouble(QueryClasses x, String sum, double want) {
        if (want != want) fails(x, sum, ENDLESS);
        else due(x, sum, Calls.bits(want));
    }

    private static void doubles(double a, double b) {
        QueryClasses x = made(7, Calls.bits(a), Calls.bits(b));
        dueDouble(x, "$0+$1", a + b);
        dueDouble(x, "$0-$1", a - b);
        dueDouble(x, "$0*$1", a * b);
        dueDouble(x, "$0/$1", a / b);
        dueDouble(x, "$0%$1", a % b);
        dueDouble(x, "min($0,$1)", Math.min(a, b));
        dueDouble(x, "max($0,$1)", Math.max(a, b));
        compares(x, a < b ? -1 : a > b ? 1 : 0);
    }

    private static void oneDouble(double a) {
        QueryClasses x = made(7, Calls.bits(a), 0);
        dueDouble(x, "-$0", -a);
        dueDouble(x, "abs($0)", Math.abs(a));
        dueDouble(x, "sign($0)", Math.signum(a));
        dueDouble(x, "floor($0)", Math.floor(a));
        dueDouble(x, "ceil($0)", Math.ceil(a));
        dueDouble(x, "rint($0)", Math.rint(a));
        due(x, "byte($0)", (byte) (int) a);
        due(x, "short($0)", (short) (int) a);
        due(x, "char($0)", (char) (int) a);
        due(x, "int($0)", (int) a);
        due(x, "long($0)", (long) a);
        dueFloat(x, "float($0)", (float) a);
        dueDouble(x, "double($0)", a);
    }

    private static void reals() {
        QueryClasses x = made(4, 0, 0);
        due(x, "0.1", Calls.bits(0.1));
        due(x, "1.50", Calls.bits(1.5));
        due(x, "12345678.9", Calls.bits(123456789 / 10.0));
        due(x, "0.00000001", Calls.bits(1 / 100000000.0));
        due(x, "9.99999999", Calls.bits(999999999 / 100000000.0));
        due(x, "0.0", 0);
        due(x, "-0.0", Calls.bits(-0.0));
        for (int i = 0; i < 300; i++) {
            int whole = random.nextInt(100000), behind = random.nextInt(10000);
            String text = whole + "." + String.format("%04d", behind);
            due(x, text, Calls.bits((whole * 10000L + behind) / 10000.0));
        }
    }

    private static void truths() {
        for (int a = 0; a < 2; a++) {
            for (int b = 0; b < 2; b++) {
                QueryClasses x = made(0, a, b);
                due(x, "$0&$1?1:0", a & b);
                due(x, "$0|$1?1:0", a | b);
                due(x, "$0^$1?1:0", a ^ b);
                due(x, "$0=$1?1:0", a == b ? 1 : 0);
                due(x, "$0!=$1?1:0", a != b ? 1 : 0);
                due(x, "$0 and $1?1:0", a & b);
                due(x, "$0 or $1?1:0", a | b);
                due(x, "not $0?1:0", 1 - a);
            }
        }
        QueryClasses x = made(4, 0, 0);
        due(x, "no and 1/0=1?1:0", 0);
        due(x, "yes or 1/0=1?1:0", 1);
        due(x, "yes?1:1/0", 1);
        fails(x, "yes&(1/0=1)?1:0", ZERO);
    }
}
