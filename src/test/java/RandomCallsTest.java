import java.util.Random;

/** Random calls: none throws; answers below 0 and runs that fail leave all as it was. */
public final class RandomCallsTest {
    private static final Calls calls = new Calls();
    private static final Random random = new Random(99);
    private static final String[] TOKENS = {"find ", "fold ", "set ", "order ", "down ", "first ", "where ", "by ", "count ",
        "sum ", "min ", "max ", "mean ", " or ", " and ", " not ", "row", "yes ", "no ", "abs(", "floor(", "ceil(", "rint(",
        "sign(", "byte(", "short(", "char(", "int(", "long(", "float(", "double(", "+", "-", "*", "/", "%", "&", "|", "^", "~",
        "(", ")", "[", "]", ",", "=", "!=", "<", ">", "<=", ">=", "<<", ">>", ">>>", "?", ":", ":=", "$0", "$1", "$2", "$3",
        "$4", "$5", "$6", "$7", "$8", "$9", "0", "1", "2", "3.5", "0.1", "2147483647", " ", "\n", "!", "$", ".", "@", "9999999999"};
    private static final String[] TEXTS = {"find $0 or row>1 order $4 down first 3", "fold sum $4*$7 where not $0 by $1&3",
        "set $4 := $4/(row-2) where $0", "set $1 := row>2 ? $4[row]:$1[row+1]", "fold mean $6%0.5 by int($5>>row)",
        "find min($4,$7)<=abs($6) and $0=(yes ? no : $0)", "set $6 := floor($7)*-1.5", "set $0 := $0 ^ ($3<<2 = 4)",
        "fold max char($4)+$2", "set $5 := $5*$5+~$4", "find yes order $7/$6", "fold count where $4/$1>0 by row"};

    public static void main(String[] args) {
        for (int i = 0; i < 1200; i++) {
            QueryClasses x = filled();
            for (int c = 0; c < 60; c++) call(x);
        }
        for (int i = 0; i < 20000; i++) text(new QueryClasses());
        for (int i = 0; i < 300; i++) wild(new QueryClasses());
        calls.done();
    }

    private static QueryClasses filled() {
        QueryClasses x = new QueryClasses();
        x.objects(random.nextInt(17));
        for (int c = 0; c < 8; c++) {
            int n = 5 + random.nextInt(12);
            x.column(c, c, n);
            for (int i = 0; i < n; i++) {
                long bits = random.nextInt(9) - 4;
                if (c == 6) bits = Calls.bits((float) bits / 4);
                if (c == 7) bits = Calls.bits((double) bits / 4);
                x.put(c, i, bits);
            }
        }
        return x;
    }

    private static String stateOf(QueryClasses x, boolean runToo) {
        StringBuilder s = new StringBuilder();
        for (int what = 0; what < 4; what++) s.append(x.count(what)).append(' ');
        for (int c = 0; c < 10; c++) {
            for (int what = 0; what < 3; what++) s.append(x.about(c, what)).append(' ');
            for (int i = 0; i < 16; i++) s.append(x.cell(c, i)).append(' ');
        }
        for (int q = 0; q < 12; q++) {
            for (int part = 0; part < 3; part++) s.append(Calls.code(x, q, part)).append(';');
        }
        if (!runToo) return s.toString();
        s.append(x.fault()).append(' ');
        for (int what = 0; what < 6; what++) s.append(x.told(what)).append(' ');
        for (int k = 0; k < 16; k++) s.append(x.hit(k)).append(' ').append(x.score(k)).append(' ').append(x.value(k)).append(' ');
        return s.toString();
    }

    private static int some(int most) {
        int pick = random.nextInt(20);
        return pick == 0 ? -1 : pick == 1 ? most : pick == 2 ? random.nextInt() : random.nextInt(most);
    }

    private static void call(QueryClasses x) {
        String before = stateOf(x, true), lasting = stateOf(x, false);
        int pick = random.nextInt(14);
        long answer;
        switch (pick) {
            case 0: answer = x.objects(some(17)); break;
            case 1: answer = x.column(some(10), some(8), some(17)); break;
            case 2: answer = x.share(some(10), some(10)); break;
            case 3: answer = x.drop(some(10)); break;
            case 4: answer = x.put(some(10), some(16), random.nextLong()); break;
            case 5: answer = x.feed(random.nextInt(), random.nextInt(), 0, 0, 0); break;
            case 6: answer = x.end(some(x.count(3) + 1)); break;
            case 7: answer = random.nextInt(4) == 0 ? x.clear() : x.told(some(6)); break;
            case 8: case 9: case 10:
                x.end(0);
                answer = Calls.ask(x, TEXTS[random.nextInt(TEXTS.length)]);
                lasting = "";
                break;
            default: answer = x.run(some(Math.max(1, x.count(2)))); break;
        }
        boolean refused = answer < 0 && answer >= -3;
        if (refused && pick != 8 && pick != 9 && pick != 10) calls.due("refused " + pick, stateOf(x, true), before);
        if (pick > 10 && answer <= -10) {
            calls.due("failed", stateOf(x, false), lasting);
            calls.due("failed", x.told(4), 0);
            calls.due("failed", x.told(0) > 0 ? 1 : 0, 1);
        }
    }

    /** Where its FAULT stands, if it has one, is within the text; what is told of it fits. */
    private static void text(QueryClasses x) {
        for (int c = 0; c < 9; c++) x.column(c, c % 8, 3);
        x.objects(3);
        StringBuilder text = new StringBuilder(TEXTS[random.nextInt(TEXTS.length)]);
        int changes = random.nextInt(4);
        for (int i = 0; i < changes; i++) {
            int at = random.nextInt(text.length() + 1);
            if (random.nextBoolean()) text.insert(at, TOKENS[random.nextInt(TOKENS.length)]);
            else text.delete(at, Math.min(text.length(), at + 1 + random.nextInt(4)));
            if (text.length() == 0) text.append("find yes");
        }
        if (random.nextInt(5) == 0) {
            text.setLength(0);
            while (text.length() < 380) text.append(TOKENS[random.nextInt(TOKENS.length)]);
        }
        String told = text.toString();
        int answer = Calls.ask(x, told);
        calls.due(told, x.count(3), 0);
        calls.due(told, x.count(2), answer == 0 ? 1 : 0);
        calls.due(told, x.fault() == 0 ? 1 : 0, answer == 0 ? 1 : 0);
        int place = -10 - answer;
        calls.due(told, answer == 0 || place >= 0 && place <= told.length() ? 1 : 0, 1);
        if (answer == 0) x.run(0);
    }

    private static void wild(QueryClasses x) {
        for (int i = 0; i < 400; i++) {
            int a = random.nextInt(), b = random.nextInt();
            x.objects(some(17));
            x.column(some(10), some(8), some(17));
            x.put(a, b, random.nextLong());
            x.cell(a, b);
            x.about(a, b);
            x.feed(a, b, a, b, a);
            if (random.nextInt(8) == 0) x.query();
            x.acts(a, b);
            x.act(some(2), some(3), some(300), some(2));
            x.run(a);
            x.run(some(2));
            x.told(a);
            x.hit(a);
            x.score(b);
            x.value(a);
            x.count(a);
        }
        calls.due("it has columns yet", x.count(1) >= 0 ? 1 : 0, 1);
    }
}
