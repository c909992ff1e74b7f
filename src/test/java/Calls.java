/** What the tests share: counting answers that are not as due, telling texts, and seeing all of an object. */
final class Calls {
    private int wrong = 0, asked = 0;

    void due(String call, long got, long want) {
        asked++;
        if (got != want) {
            wrong++;
            if (wrong <= 50) System.out.println(call + " answered " + got + ", due is " + want);
        }
    }

    void due(String call, String got, String want) {
        asked++;
        if (!got.equals(want)) {
            wrong++;
            if (wrong <= 50) System.out.println(call + " answered " + got + ", due is " + want);
        }
    }

    void done() {
        System.out.println(asked + " answers, " + wrong + " not as due");
        if (wrong != 0 || asked == 0) System.exit(1);
    }

    /** Lays a text on THE TAPE, which must be empty, without anything behind it. */
    static void lay(QueryClasses x, String text) {
        for (int at = 0; at < text.length(); at += 20) {
            int[] numbers = new int[5];
            for (int i = 0; i < 20; i++) {
                int b = at + i < text.length() ? text.charAt(at + i) & 255 : 0;
                numbers[i / 4] = numbers[i / 4] << 8 | b;
            }
            x.feed(numbers[0], numbers[1], numbers[2], numbers[3], numbers[4]);
        }
        x.end(text.length());
    }

    static int ask(QueryClasses x, String text) {
        lay(x, text);
        return x.query();
    }

    /** The ACTS of a PART: each op, behind a colon its number, if it isn't 0. */
    static String code(QueryClasses x, int q, int part) {
        StringBuilder out = new StringBuilder();
        for (int i = 0; i < x.acts(q, part); i++) {
            if (i > 0) out.append(' ');
            out.append(x.act(q, part, i, 0));
            if (x.act(q, part, i, 1) != 0) out.append(':').append(x.act(q, part, i, 1));
        }
        return out.toString();
    }

    /** All that calls tell of an object, without changing it; what THE TAPE holds is not among it. */
    static String state(QueryClasses x) {
        StringBuilder s = new StringBuilder("counts");
        for (int what = 0; what < 4; what++) s.append(' ').append(x.count(what));
        for (int c = 0; c < 10; c++) {
            s.append(", $").append(c);
            for (int what = 0; what < 3; what++) s.append(' ').append(x.about(c, what));
            int cells = x.about(c, 1);
            for (int i = 0; i < cells; i++) s.append(i == 0 ? ": " : " ").append(x.cell(c, i));
        }
        s.append(", fault ").append(x.fault()).append(", run");
        for (int what = 0; what < 6; what++) s.append(' ').append(x.told(what));
        int hits = x.told(4);
        for (int k = 0; k < hits; k++) {
            s.append(", hit ").append(x.hit(k)).append(' ').append(x.score(k)).append(' ').append(x.value(k));
        }
        int queries = x.count(2);
        for (int q = 0; q < queries; q++) {
            for (int part = 0; part < 3; part++) s.append(part == 0 ? ", code " : "; ").append(code(x, q, part));
        }
        return s.toString();
    }

    static long bits(double v) {
        return Double.doubleToRawLongBits(v);
    }

    static long bits(float v) {
        return Float.floatToRawIntBits(v);
    }
}
