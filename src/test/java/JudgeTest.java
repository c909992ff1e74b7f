import java.util.List;
import java.util.Random;

/**
 * Random texts, right and wrong: their FAULT, its place, and how many ACTS they come to, against
 * a reader that goes by the document's grammar line by line and stops at the first FAULT it meets.
 */
public final class JudgeTest {
    private static final Calls calls = new Calls();
    private static final Random random = new Random(5);
    private static final int T = 0, I = 1, J = 2, F = 3, D = 4;
    private static final int[] seen = new int[7];

    public static void main(String[] args) {
        for (int i = 0; i < 50000; i++) judge(text());
        for (int i = 0; i < 10000; i++) judge(deepText());
        for (int i = 0; i < 10000; i++) judge(longText());
        for (int fault = 0; fault < 7; fault++) calls.due("texts of fault " + fault + " are many", seen[fault] > 100 ? 1 : 0, 1);
        calls.done();
    }

    private static void judge(String text) {
        QueryClasses x = new QueryClasses();
        for (int lane = 0; lane < 8; lane++) x.column(lane, lane, 1);
        int answer = Calls.ask(x, text);
        Reader reader = new Reader(text);
        int[] acts = {0, 0, 0};
        Fault fault = null;
        try {
            reader.query(acts);
        } catch (Fault f) {
            fault = f;
        }
        seen[fault == null ? 0 : fault.which]++;
        calls.due(text + ": fault", x.fault(), fault == null ? 0 : fault.which);
        calls.due(text, answer, fault == null ? 0 : -10 - fault.place);
        for (int part = 0; part < 3 && fault == null; part++) calls.due(text + ": ACTS", x.acts(0, part), acts[part]);
    }

    private static final class Fault extends Exception {
        private static final long serialVersionUID = 1;
        final int which, place;

        Fault(int which, int place) {
            super(null, null, false, false);
            this.which = which;
            this.place = place;
        }
    }

    /** A sum: its KIND, how many ACTS, how high a PILE. */
    private record Sum(int kind, int acts, int pile) {
        Sum as(int wanted) {
            return new Sum(wanted, kind == wanted ? acts : acts + 1, pile);
        }

        Sum and(int kind, int more) {
            return new Sum(kind, acts + more, pile);
        }

        boolean whole() {
            return kind == I || kind == J;
        }

        boolean number() {
            return kind != T;
        }
    }

    private static Sum joined(Sum left, Sum right, int kind, int more) {
        return new Sum(kind, left.acts + right.acts + more, Math.max(left.pile, right.pile + 1));
    }

    private static Sum jumped(Sum first, Sum second, int kind, int more) {
        return new Sum(kind, first.acts + second.acts + more, Math.max(first.pile, second.pile));
    }

    private static final class Reader {
        static final List<String> SIGNS = List.of(">>>", "!=", "<=", ">=", "<<", ">>", ":=", "+", "-", "*", "/", "%", "&", "|",
            "^", "~", "(", ")", "[", "]", ",", "=", "<", ">", "?", ":");
        static final List<String> ONE = List.of("abs", "floor", "ceil", "rint", "sign", "byte", "short", "char", "int", "long",
            "float", "double");
        final String text;
        int next = 0, place = 0, open = 0;
        String token = "";

        Reader(String text) {
            this.text = text;
        }

        static boolean figure(char c) {
            return c >= '0' && c <= '9';
        }

        static boolean letter(char c) {
            return c >= 'a' && c <= 'z';
        }

        char at(int i) {
            return i < text.length() ? text.charAt(i) : 0;
        }

        /** "" is the end. */
        void take() throws Fault {
            while (at(next) == ' ' || at(next) == '\n') next++;
            place = next;
            if (next >= text.length()) {
                token = "";
                return;
            }
            if (letter(at(next))) while (letter(at(next))) next++;
            else if (figure(at(next))) figures();
            else if (at(next) == '$') {
                if (!figure(at(next + 1))) throw new Fault(1, place);
                next += 2;
            } else {
                String sign = SIGNS.stream().filter(s -> text.startsWith(s, place)).findFirst().orElse(null);
                if (sign == null) throw new Fault(1, place);
                next += sign.length();
            }
            token = text.substring(place, next);
        }

        void figures() throws Fault {
            while (figure(at(next))) next++;
            if (at(next) == '.' && figure(at(next + 1))) {
                next++;
                while (figure(at(next))) next++;
                if (next - place - 1 > 9) throw new Fault(1, place);
            } else if (new java.math.BigInteger(text.substring(place, next)).bitLength() > 31) {
                throw new Fault(1, place);
            }
        }

        boolean is(String... wanted) {
            return List.of(wanted).contains(token);
        }

        boolean isNumber() {
            return !token.isEmpty() && figure(token.charAt(0)) && token.indexOf('.') < 0;
        }

        boolean isReal() {
            return !token.isEmpty() && figure(token.charAt(0)) && token.indexOf('.') >= 0;
        }

        boolean isColumn() {
            return token.startsWith("$");
        }

        void must(boolean stands) throws Fault {
            if (!stands) throw new Fault(2, place);
        }

        void fit(boolean fits, int where) throws Fault {
            if (!fits) throw new Fault(4, where);
        }

        int lane() throws Fault {
            int column = token.charAt(1) - '0';
            if (column > 7) throw new Fault(5, place);
            return column;
        }

        static int kindOf(int lane) {
            return lane == 0 ? T : lane < 5 ? I : lane - 3;
        }

        void deeper() throws Fault {
            open++;
            if (open > 12) throw new Fault(3, place);
        }

        void query(int[] acts) throws Fault {
            Sum[] parts = new Sum[3];
            take();
            must(is("find", "fold", "set"));
            if (is("find")) find(parts);
            else if (is("fold")) fold(parts);
            else set(parts);
            must(token.isEmpty());
            for (int p = 0; p < 3; p++) {
                if (parts[p] == null) continue;
                acts[p] = parts[p].acts;
                if (parts[p].acts > 200 || parts[p].pile > 24) throw new Fault(6, text.length());
            }
        }

        Sum asked() throws Fault {
            take();
            Sum told = or();
            fit(told.kind == T, place);
            return told;
        }

        void find(Sum[] parts) throws Fault {
            parts[0] = asked();
            if (is("order")) {
                take();
                Sum told = sum();
                fit(told.number(), place);
                parts[1] = told.as(D);
                if (is("down")) take();
            }
            if (is("first")) {
                take();
                must(isNumber());
                take();
            }
        }

        void fold(Sum[] parts) throws Fault {
            take();
            must(is("count", "sum", "min", "max", "mean"));
            String how = token;
            take();
            if (!how.equals("count")) {
                Sum told = sum();
                fit(told.number(), place);
                parts[1] = how.equals("mean") ? told.as(D) : !how.equals("sum") ? told : told.whole() ? told.as(J) : told.as(D);
            }
            if (is("where")) parts[0] = asked();
            if (is("by")) {
                take();
                parts[2] = sum();
                fit(parts[2].whole(), place);
            }
        }

        void set(Sum[] parts) throws Fault {
            take();
            must(isColumn());
            int lane = lane();
            take();
            must(is(":="));
            int where = place;
            take();
            Sum told = sum();
            fit(lane == 0 ? told.kind == T : told.number(), where);
            if (lane > 0) told = told.as(kindOf(lane));
            parts[1] = new Sum(T, told.acts + 2 + (lane > 0 && lane < 4 ? 1 : 0), told.pile + 1);
            if (is("where")) parts[0] = asked();
        }

        Sum sum() throws Fault {
            Sum asked = or();
            if (!is("?")) return asked;
            deeper();
            fit(asked.kind == T, place);
            take();
            Sum yes = sum();
            must(is(":"));
            int where = place;
            take();
            Sum no = sum();
            open--;
            fit(yes.number() == no.number(), where);
            int kind = Math.max(yes.kind, no.kind);
            return jumped(asked, jumped(yes.as(kind), no.as(kind), kind, 1), kind, 1);
        }

        Sum or() throws Fault {
            Sum left = and();
            while (is("or")) {
                int where = place;
                take();
                Sum right = and();
                fit(left.kind == T && right.kind == T, where);
                left = jumped(left, right, T, 3);
            }
            return left;
        }

        Sum and() throws Fault {
            Sum left = not();
            while (is("and")) {
                int where = place;
                take();
                Sum right = not();
                fit(left.kind == T && right.kind == T, where);
                left = jumped(left, right, T, 3);
            }
            return left;
        }

        Sum not() throws Fault {
            if (!is("not")) return test();
            int where = place;
            deeper();
            take();
            Sum of = not();
            open--;
            fit(of.kind == T, where);
            return of.and(T, 1);
        }

        Sum test() throws Fault {
            Sum left = mix();
            if (!is("=", "!=", "<", ">", "<=", ">=")) return left;
            boolean truths = is("=", "!=");
            int where = place;
            take();
            Sum right = mix();
            fit(left.number() && right.number() || truths && !left.number() && !right.number(), where);
            int kind = Math.max(left.kind, right.kind);
            return joined(left.as(kind), right.as(kind), T, 2);
        }

        Sum mix() throws Fault {
            Sum left = shift();
            while (is("&", "|", "^")) {
                int where = place;
                take();
                Sum right = shift();
                fit(left.whole() && right.whole() || left.kind == T && right.kind == T, where);
                int kind = Math.max(left.kind, right.kind);
                left = joined(left.as(kind), right.as(kind), kind, 1);
            }
            return left;
        }

        Sum shift() throws Fault {
            Sum left = plus();
            while (is("<<", ">>", ">>>")) {
                int where = place;
                take();
                Sum right = plus();
                fit(left.whole() && right.whole(), where);
                left = joined(left, right.as(I), left.kind, 1);
            }
            return left;
        }

        Sum plus() throws Fault {
            Sum left = times();
            while (is("+", "-")) {
                int where = place;
                take();
                left = ofNumbers(left, times(), where);
            }
            return left;
        }

        Sum times() throws Fault {
            Sum left = sign();
            while (is("*", "/", "%")) {
                int where = place;
                take();
                left = ofNumbers(left, sign(), where);
            }
            return left;
        }

        Sum ofNumbers(Sum left, Sum right, int where) throws Fault {
            fit(left.number() && right.number(), where);
            int kind = Math.max(left.kind, right.kind);
            return joined(left.as(kind), right.as(kind), kind, 1);
        }

        Sum sign() throws Fault {
            if (!is("-", "~")) return part();
            boolean turned = is("~");
            int where = place;
            deeper();
            take();
            Sum of = sign();
            open--;
            fit(turned ? of.whole() : of.number(), where);
            return of.and(of.kind, 1);
        }

        Sum simple(int kind) throws Fault {
            take();
            return new Sum(kind, 1, 1);
        }

        Sum part() throws Fault {
            if (isNumber() || is("row")) return simple(I);
            if (isReal()) return simple(D);
            if (is("yes", "no")) return simple(T);
            if (isColumn()) return cell();
            if (is("(")) {
                deeper();
                take();
                Sum within = sum();
                must(is(")"));
                take();
                open--;
                return within;
            }
            must(is("min", "max") || ONE.contains(token));
            return function();
        }

        Sum cell() throws Fault {
            int kind = kindOf(lane());
            take();
            if (!is("[")) return new Sum(kind, 2, 1);
            int where = place;
            deeper();
            take();
            Sum index = sum();
            must(is("]"));
            take();
            open--;
            fit(index.kind == I, where);
            return index.and(kind, 1);
        }

        Sum function() throws Fault {
            String word = token;
            boolean two = is("min", "max");
            take();
            must(is("("));
            int where = place;
            deeper();
            take();
            Sum first = sum(), second = null;
            if (two) {
                must(is(","));
                take();
                second = sum();
            }
            must(is(")"));
            take();
            open--;
            if (two) return ofNumbers(first, second, where);
            fit(first.number(), where);
            switch (word) {
                case "abs": return first.and(first.kind, 1);
                case "sign": return first.kind == F ? first.and(F, 1) : first.as(D).and(D, 1);
                case "floor": case "ceil": case "rint": return first.as(D).and(D, 1);
                case "byte": case "short": case "char": return first.as(I).and(I, 1);
                case "int": return first.as(I);
                case "long": return first.as(J);
                case "float": return first.as(F);
                default: return first.as(D);
            }
        }
    }

    private static String pick(String... some) {
        return some[random.nextInt(some.length)];
    }

    private static final String[] TOKENS = {"find", "fold", "set", "order", "down", "first", "where", "by", "count", "sum", "min",
        "max", "mean", "or", "and", "not", "row", "yes", "no", "abs", "floor", "ceil", "rint", "sign", "byte", "short", "char",
        "int", "long", "float", "double", "word", "+", "-", "*", "/", "%", "&", "|", "^", "~", "(", ")", "[", "]", ",", "=", "!=",
        "<", ">", "<=", ">=", "<<", ">>", ">>>", "?", ":", ":=", "$0", "$4", "$5", "$6", "$7", "$8", "$9", "0", "1", "7",
        "2147483647", "2147483648", "1.5", "0.12345678", "0.123456789", ".", "!", "$", "@", "(((((", "- - - -", "not not not",
        "~~~~~~", "yes?1:yes?2:"};

    private static String text() {
        StringBuilder text = new StringBuilder(clauses());
        int changes = random.nextInt(3);
        for (int i = 0; i < changes; i++) {
            String[] tokens = text.toString().split(" ");
            int at = random.nextInt(tokens.length);
            int what = random.nextInt(3);
            if (what == 0) tokens[at] = "";
            else if (what == 1) tokens[at] = pick(TOKENS);
            else tokens[at] = tokens[at] + " " + pick(TOKENS);
            text.setLength(0);
            text.append(String.join(" ", tokens));
        }
        String told = text.toString();
        if (random.nextInt(4) == 0) told = told.replaceAll("(?<![a-z]) | (?![a-z])", "");
        if (random.nextInt(4) == 0) told = told + " \n ".substring(random.nextInt(3));
        if (told.length() > 400) told = told.substring(0, 400);
        return random.nextInt(20) == 0 ? told.substring(0, random.nextInt(told.length() + 1)) : told;
    }

    /** About as many open as may be, some of them at their ends before the innermost. */
    private static String deepText() {
        StringBuilder text = new StringBuilder(pick("fold max ", "find 1=", "set $4:=", "fold count by ")), ends = new StringBuilder();
        int most = 10 + random.nextInt(5);
        for (int open = 0; open < most; open++) {
            String[] opening = {"(", "-", "~", "abs(", "min(1,", "max(", "$4[", "(yes?", "(no?1:", "(not yes?1:", "1+-", "-1+", "(1)*"};
            String[] ending = {")", "", "", ")", ")", ",2)", "]", ":2)", ")", ")", "", "", ""};
            int which = random.nextInt(opening.length);
            text.append(opening[which]);
            ends.insert(0, ending[which]);
        }
        return text.append(pick("1", "1", "row", "yes", "1?2:3", "@", "$8", "")).append(ends).append(pick("", "", ")", "=yes")).toString();
    }

    /** About as many ACTS, or as high a PILE, as may be. */
    private static String longText() {
        StringBuilder text = new StringBuilder(pick("fold max ", "fold sum ", "find 1=", "set $4:=", "fold count by ", "find yes order "));
        if (random.nextBoolean()) {
            int acts = 180 + random.nextInt(30);
            text.append(pick("1", "-1", "long(1)", "(yes?1:2)", "(1.5)", "(1)", "min(1,2)"));
            while (acts > 0) {
                String[] more = {"+1", "-1", "*1", "+$4", "+~1", "|1", "<<1"};
                int[] made = {2, 2, 2, 3, 3, 2, 2};
                int which = random.nextInt(more.length);
                if (text.length() < 370) text.append(more[which]);
                acts -= made[which];
            }
        } else {
            int height = 22 + random.nextInt(6), brackets = 0;
            for (; height > 4; height -= 4, brackets++) text.append(pick("1|1<<1+1*(", "row&2>>3-4*(", "-1^1<<~1-1*(", "1&abs(1)<<$1+1%("));
            text.append(pick("1", "1+1", "1<<1+1", "(yes?1:1*1)", "(1=2?1:2)", "min(1,1+2)", "$4[1+2]"));
            text.append(")".repeat(brackets));
        }
        return text.append(pick("", "", " ", " where yes", "@", "+yes")).toString();
    }

    private static String clauses() {
        int deep = 1 + random.nextInt(random.nextInt(8) == 0 ? 9 : 5);
        switch (random.nextInt(3)) {
            case 0:
                return "find " + truth(deep) + (random.nextBoolean() ? " order " + any(deep) + pick("", " down") : "")
                    + pick("", "", " first 3");
            case 1:
                return "fold " + (random.nextInt(5) == 0 ? "count" : pick("sum ", "min ", "max ", "mean ") + any(deep))
                    + (random.nextBoolean() ? " where " + truth(deep) : "") + (random.nextBoolean() ? " by " + whole(deep) : "");
            default:
                int lane = random.nextInt(8);
                return "set $" + lane + " := " + (lane == 0 ? truth(deep) : any(deep))
                    + (random.nextBoolean() ? " where " + truth(deep) : "");
        }
    }

    private static String truth(int deep) {
        if (deep <= 0) return pick("yes", "no", "$0");
        int d = deep - 1;
        switch (random.nextInt(8)) {
            case 0: return any(d) + pick(" = ", " != ", " < ", " > ", " <= ", " >= ") + any(d);
            case 1: return "not " + truth(d);
            case 2: return truth(d) + pick(" and ", " or ") + truth(d);
            case 3: return "( " + truth(d) + " )";
            case 4: return "( " + truth(d) + " ? " + truth(d) + " : " + truth(d) + " )";
            case 5: return "( " + truth(d) + " )" + pick(" & ", " | ", " ^ ", " = ") + "( " + truth(d) + " )";
            default: return truth(0);
        }
    }

    private static String whole(int deep) {
        if (deep <= 0) return pick("1", "row", "$4", "$5", "$1", "27");
        int d = deep - 1;
        switch (random.nextInt(8)) {
            case 0: return whole(d) + pick(" + ", " - ", " * ", " & ", " | ", " << ", " >>> ") + whole(d);
            case 1: return pick("- ", "~ ") + whole(0);
            case 2: return pick("int", "long", "byte", "char") + " ( " + any(d) + " )";
            case 3: return "( " + whole(d) + " )";
            case 4: return "$4 [ int ( " + any(d) + " ) ]";
            case 5: return "( " + truth(d) + " ? " + whole(d) + " : " + whole(d) + " )";
            default: return whole(d) + pick(" + ", " - ", " * ") + "( " + whole(d) + " )";
        }
    }

    private static String any(int deep) {
        if (deep <= 0) return pick("1.5", "$6", "$7", "2.25", "row", "$4");
        int d = deep - 1;
        switch (random.nextInt(8)) {
            case 0: return any(d) + pick(" + ", " - ", " * ", " / ", " % ") + any(d);
            case 1: return "- " + any(d);
            case 2: return pick("abs", "floor", "ceil", "rint", "sign", "float", "double", "short") + " ( " + any(d) + " )";
            case 3: return pick("min", "max") + " ( " + any(d) + " , " + any(d) + " )";
            case 4: return "( " + truth(d) + " ? " + any(d) + " : " + any(d) + " )";
            case 5: return whole(d);
            default: return any(d) + pick(" + ", " * ") + "( " + any(d) + " )";
        }
    }
}
