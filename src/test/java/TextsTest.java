/** Terms, 2: TOKENS, what may stand where, and the FAULTS of a text with their places. */
public final class TextsTest {
    private static final Calls calls = new Calls();

    public static void main(String[] args) {
        tokens();
        places();
        clauses();
        depth();
        kinds();
        missing();
        order();
        tooLong();
        pile();
        calls.done();
    }

    /** $0 .. $7 are of LANES 0 .. 7; $8, $9 are MISSING. */
    private static QueryClasses made() {
        QueryClasses x = new QueryClasses();
        for (int lane = 0; lane < 8; lane++) x.column(lane, lane, 1);
        return x;
    }

    private static void fits(String text) {
        QueryClasses x = made();
        calls.due(text, Calls.ask(x, text), 0);
        calls.due(text + ": its fault", x.fault(), 0);
    }

    private static void fails(String text, int fault, int place) {
        QueryClasses x = made();
        calls.due(text + ": its place", Calls.ask(x, text), -10 - place);
        calls.due(text + ": its fault", x.fault(), fault);
        calls.due(text + ": no query", x.count(2), 0);
    }

    private static void tokens() {
        fits("find\nyes\n\n ");
        fits("find 2147483647=2147483647");
        fits("find 00000000000000000000002147483647=1");
        fails("find 2147483648=1", 1, 5);
        fails("find 99999999999999999999999999999999999999999999=1", 1, 5);
        fits("find 1.23456789=12345678.9");
        fails("find 1.234567890=1", 1, 5);
        fails("find 1234567890.0=1", 1, 5);
        fails("find 000000000.1=1", 1, 5);
        fails("find 1.=1", 1, 6);
        fails("find .5=1", 1, 5);
        fails("find 1.5.5=1", 1, 8);
        fails("find 1. 5=1", 1, 6);
        fails("find $", 1, 5);
        fails("find $ 0", 1, 5);
        fails("find $a", 1, 5);
        fails("find $00", 2, 7);
        fails("find $1.5", 1, 7);
        fails("find yes!", 1, 8);
        fails("find 1! =2", 1, 6);
        fits("find 1!=2");
        fails("find yes\t", 1, 8);
        fails("find yes\0", 1, 8);
        fails("find Yes", 1, 5);
        fails("find yes\u00e4", 1, 8);
        fails("find yes;", 1, 8);
        fails("@find", 1, 0);
        fits("find yes or no");
        fits("find 1=1and 2=2or yes");
        fits("find$0or$0order$1first 1");
        fails("find yesno", 2, 5);
        fails("find yesandno", 2, 5);
        fits("find 8>>>1>>1<<1>=1");
        fails("find 8>>>>1", 2, 9);
        fails("find 8>>=1", 2, 8);
        fails("find 8<<<1", 2, 8);
        fails("find 8= =1", 2, 8);
        fails("find 8==1", 2, 7);
        fails("find 8=>1", 2, 7);
        fails("find 8=<1", 2, 7);
        fits("find (yes ?1:2)=1");
        fails("find (yes ?1:=2)=1", 2, 12);
        fails("set $1 : = 1", 2, 7);
        fits("set $1:=1");
        fits("find -1<-2");
    }

    private static void places() {
        fails("", 2, 0);
        fails("  ", 2, 2);
        fails("find", 2, 4);
        fails("find   ", 2, 7);
        fails("where yes", 2, 0);
        fails("1", 2, 0);
        fails("find )", 2, 5);
        fails("find (yes", 2, 9);
        fails("find (yes]", 2, 9);
        fails("find (yes))", 2, 10);
        fails("find ()", 2, 6);
        fails("find 1 = ", 2, 9);
        fails("find 1 < 2 < 3", 2, 11);
        fails("find 1 = 2 = 3", 2, 11);
        fails("find not 1 = 2 = 3", 2, 15);
        fails("find 1 = not yes", 2, 9);
        fails("find 1 + not yes", 2, 9);
        fails("find - not yes", 2, 7);
        fits("find not not yes and not no or not not not yes");
        fails("find yes ? yes : no", 2, 9);
        fails("find (yes ? yes)", 2, 15);
        fails("find (yes ? yes : )", 2, 18);
        fails("find abs 1 = 1", 2, 9);
        fails("find abs(1, 2) = 1", 2, 10);
        fails("find min(1) = 1", 2, 10);
        fails("find min(1, 2, 3) = 1", 2, 13);
        fails("find min(1, ) = 1", 2, 12);
        fails("find max() = 1", 2, 9);
        fails("find abs(1 = 1", 2, 14);
        fails("find abs", 2, 8);
        fails("find $0[1", 2, 9);
        fails("find $0[1)", 2, 9);
        fails("find $0[]", 2, 8);
        fails("find [1]", 2, 5);
        fails("find 1[1]", 4, 6);
        fails("find yes[1]", 2, 8);
        fails("find $0[0][0]", 2, 10);
        fails("find $0 $0", 2, 8);
        fails("find find", 2, 5);
        fails("find count", 2, 5);
        fails("find order", 2, 5);
        fails("find sum(1)", 2, 5);
        fails("find mean(1)", 2, 5);
        fails("find sine(1)", 2, 5);
        fails("find yes , no", 2, 9);
        fails("find + 1", 2, 5);
        fails("find * 1", 2, 5);
        fails("find 1 ~ 1", 4, 7);
        fails("find yes ~ 1", 2, 9);
    }

    private static void clauses() {
        fits("find yes order 1");
        fits("find yes order 1 down");
        fits("find yes order 1 down first 1");
        fits("find yes order yes ? 1 : 2 first 1");
        fits("find yes first 0");
        fails("find yes down", 2, 9);
        fails("find yes first", 2, 14);
        fails("find yes first -1", 2, 15);
        fails("find yes first 1.0", 2, 15);
        fails("find yes first yes", 2, 15);
        fails("find yes first 2147483648", 1, 15);
        fails("find yes first 1 order 1", 2, 17);
        fails("find yes first 1 2", 2, 17);
        fails("find yes order 1 down down", 2, 22);
        fails("find yes order 1 by 1", 2, 17);
        fails("find yes order", 2, 14);
        fails("find yes where yes", 2, 9);
        fits("fold count");
        fits("fold count where yes by 1");
        fits("fold count by 1");
        fits("fold sum 1 where yes");
        fits("fold min min(1,2)");
        fits("fold max (1)");
        fits("fold mean yes ? 1 : 2 by no ? 1 : 2");
        fails("fold", 2, 4);
        fails("fold abs 1", 2, 5);
        fails("fold find", 2, 5);
        fails("fold count 1", 2, 11);
        fails("fold sum", 2, 8);
        fails("fold sum where yes", 2, 9);
        fails("fold min (1,2)", 2, 11);
        fails("fold count by 1 where yes", 2, 16);
        fails("fold count where yes ? yes : no", 2, 21);
        fails("fold count where", 2, 16);
        fails("fold count by", 2, 13);
        fails("fold count order 1", 2, 11);
        fails("fold count first 1", 2, 11);
        fits("set $0 := yes");
        fits("set $0 := yes ? yes : no where no");
        fits("set $7 := 1 where yes or no");
        fails("set", 2, 3);
        fails("set 1 := 1", 2, 4);
        fails("set $0 = 1", 2, 7);
        fails("set $0", 2, 6);
        fails("set $0[1] := 1", 2, 6);
        fails("set $1 :=", 2, 9);
        fails("set $1 := 1 by 1", 2, 12);
        fails("set $1 := 1 where yes by 1", 2, 22);
        fails("set $1 := 1 first 1", 2, 12);
    }

    private static String many(String what, int n) {
        return what.repeat(n);
    }

    private static void depth() {
        fits("find " + many("(", 12) + "yes" + many(")", 12));
        fails("find " + many("(", 13) + "yes" + many(")", 13), 3, 17);
        fails("find " + many("(", 13), 3, 17);
        fails("find " + many("(", 13) + "@", 3, 17);
        fits("find " + many("-", 12) + "1=1");
        fails("find " + many("-", 13) + "1=1", 3, 17);
        fits("find " + many("-~", 6) + "1=1");
        fails("find " + many("~-", 6) + "~1=1", 3, 17);
        fits("find " + many("not ", 12) + "yes");
        fails("find " + many("not ", 13) + "yes", 3, 53);
        fits("find 1=" + many("$4[", 12) + "1" + many("]", 12));
        fails("find 1=" + many("$4[", 13) + "1" + many("]", 13), 3, 7 + 36 + 2);
        fits("find 1=" + many("abs(", 12) + "1" + many(")", 12));
        fails("find 1=" + many("abs(", 13) + "1" + many(")", 13), 3, 7 + 48 + 3);
        fits("fold sum " + many("yes?1:", 12) + "1");
        fails("fold sum " + many("yes?1:", 13) + "1", 3, 9 + 72 + 3);
        fits("fold sum " + many("yes?", 12) + "1" + many(":1", 12));
        fails("fold sum " + many("yes?", 13) + "1" + many(":1", 13), 3, 9 + 48 + 3);
        fails("fold sum " + many("yes?", 12) + "2?1" + many(":1", 13), 3, 9 + 48 + 1);
        fails("fold sum " + many("yes?", 11) + "2?1" + many(":1", 12), 4, 9 + 44 + 1);
        fails("fold sum 1?@", 4, 10);
        fits("find " + many("(yes) and ", 20) + "(no)");
        fits("find 1=" + many("-1+", 20) + "-1");
        fits("find 1=" + many("-1-", 20) + "-1");
        fits("find 1=$4[-(~(yes?(not not yes?abs(-$4[-1]):-1):-1))]");
        fits("find 1=-~(" + many("-", 9) + "1)");
        fails("find 1=-~(" + many("-", 10) + "1)", 3, 19);
        fits("fold sum (yes?1:1)+" + many("(", 12) + "1" + many(")", 12));
        fits("fold sum $4[1]+abs(1)+" + many("(", 12) + "1" + many(")", 12));
        fits("find not no and " + many("(", 12) + "yes" + many(")", 12));
        fails("find not no and not " + many("(", 12) + "yes" + many(")", 12), 3, 31);
        fails("find not no = no and not " + many("(", 12) + "yes" + many(")", 12), 3, 36);
    }

    /** A T, an I, a J, a F, a D. */
    private static final String[] PARTS = {"$0", "$4", "$5", "$6", "$7"};

    private static void kinds() {
        for (int a = 0; a < 5; a++) {
            for (int b = 0; b < 5; b++) {
                boolean numbers = a > 0 && b > 0, truths = a == 0 && b == 0;
                boolean whole = numbers && a < 3 && b < 3;
                for (String s : new String[] {"+", "-", "*", "/", "%"}) pair(a, s, b, numbers, false);
                for (String s : new String[] {"<", ">", "<=", ">="}) pair(a, s, b, numbers, true);
                for (String s : new String[] {"=", "!="}) pair(a, s, b, numbers || truths, true);
                for (String s : new String[] {"&", "|", "^"}) pair(a, s, b, whole || truths, truths);
                for (String s : new String[] {"<<", ">>", ">>>"}) pair(a, s, b, whole, false);
                for (String s : new String[] {"or", "and"}) pair(a, s, b, truths, true);
                String choice = "fold count where ($0 ? " + PARTS[a] + " : " + PARTS[b] + ") = " + PARTS[a];
                if (numbers || truths) fits(choice);
                else fails(choice, 4, 26);
                String two = "fold sum min(" + PARTS[a] + "," + PARTS[b] + ")";
                if (numbers) fits(two);
                else fails(two, 4, 12);
            }
            ones(a);
        }
        fails("fold sum max(1,yes)@", 1, 19);
        fails("fold sum abs(yes)", 4, 12);
        fails("fold sum abs(yes", 2, 16);
        fails("fold sum $4[yes", 2, 15);
        fails("fold sum $4[yes)", 2, 15);
        fails("find 1 or 2", 4, 7);
        fails("find yes or 2 and 3", 4, 14);
        fails("find not 1 and 2", 4, 5);
        fails("find not 1 = 2 + yes", 4, 15);
        fails("find 1  ", 4, 8);
        fails("find 1 order 2", 4, 7);
        fails("find 1 )", 4, 7);
        fails("find 1 @", 1, 7);
        fails("find yes order yes", 4, 18);
        fails("find yes order no down", 4, 18);
        fails("fold sum no where yes", 4, 12);
        fails("fold mean no=no by 1", 4, 16);
        fails("fold count where 1 by 1", 4, 19);
        fails("fold count by yes", 4, 17);
        fails("fold count by 1.5", 4, 17);
        fails("fold count by float(1) ", 4, 23);
        fits("fold count by long(1)");
        fails("set $0 := 1", 4, 7);
        fails("set $0 := 1 where", 4, 7);
        fails("set $4 := yes", 4, 7);
        fails("set $4 := yes where 1", 4, 7);
        fails("set $4 := 1 where 1", 4, 19);
        fails("set $7  :=  yes @", 1, 16);
    }

    private static void pair(int a, String sign, int b, boolean fits, boolean truth) {
        String sum = PARTS[a] + " " + sign + " " + PARTS[b];
        if (!fits) fails("fold sum " + sum, 4, 12);
        else if (truth) fits("find " + sum);
        else fits("fold sum " + sum);
    }

    private static void ones(int a) {
        boolean number = a > 0, whole = a == 1 || a == 2;
        one("fold sum -" + PARTS[a], number, 9);
        one("fold sum ~" + PARTS[a], whole, 9);
        one("find not " + PARTS[a], !number, 5);
        one("fold sum $4[" + PARTS[a] + "]", a == 1, 11);
        String[] functions = {"abs", "floor", "ceil", "rint", "sign", "byte", "short", "char", "int", "long", "float", "double"};
        for (String f : functions) one("fold sum " + f + "(" + PARTS[a] + ")", number, 9 + f.length());
        one("fold count by " + PARTS[a], whole, 16);
        one("find " + PARTS[a], !number, 7);
        one("find yes order " + PARTS[a], number, 17);
        for (int lane = 0; lane < 8; lane++) one("set $" + lane + " := " + PARTS[a], number == lane > 0, 7);
    }

    private static void one(String text, boolean fits, int place) {
        if (fits) fits(text);
        else fails(text, 4, place);
    }

    private static void missing() {
        fails("find $8", 5, 5);
        fails("find $9[1]", 5, 5);
        fails("find $9@", 5, 5);
        fails("find 1 or $8", 5, 10);
        fails("set $8 := 1", 5, 4);
        fails("set $8 @", 5, 4);
        fails("set $8", 5, 4);
        fails("find yes $8", 2, 9);
        fails("fold count by $8", 5, 14);
        QueryClasses x = made();
        x.drop(3);
        calls.due("dropped", Calls.ask(x, "find $3=1"), -15);
        x.share(3, 0);
        calls.due("there again, of another LANE", Calls.ask(x, "find $3"), 0);
    }

    private static void order() {
        fails("find 1 + yes @", 1, 13);
        fails("find 1 + yes )", 4, 7);
        fails("find yes + @", 1, 11);
        fails("find yes + $8", 5, 11);
        fails("find yes + )", 2, 11);
        fails("find yes + 1 + $8", 4, 9);
        fails("find yes + 1 * $8", 5, 15);
        fails("find ) @", 2, 5);
        fails("findx @", 2, 0);
        fails("find yes yes @", 2, 9);
        fails("fold sum $4[yes]@", 1, 16);
        fails("fold sum $4[yes] @", 1, 17);
        fails("fold sum (yes ? 1 : yes) + $8", 4, 18);
        fails("fold sum (yes ? 1 : yes + $8)", 5, 26);
        fails("fold sum (yes ? yes + 1 : $8)", 4, 20);
        fails("fold sum (yes ? yes + 1 @ $8)", 1, 24);
    }

    private static void tooLong() {
        fits("find 1=1" + many("+1", 98));
        fails("find 1=1" + many("+1", 98) + "+1", 6, 206);
        fits("fold sum " + "1" + many("+1", 99));
        fails("fold sum " + "1" + many("+1", 99) + "+1", 6, 9 + 201);
        fails("fold sum " + "1" + many("+1", 100) + "     ", 6, 9 + 201 + 5);
        fails("fold sum " + "1" + many("+1", 150) + "+yes", 4, 9 + 301);
        fails("fold sum " + "1" + many("+1", 150) + "@", 1, 9 + 301);
        fails("fold count where yes by " + "1" + many("+1", 150), 6, 24 + 301);
        fits("fold sum 1" + many("+1", 80) + " where 1=1" + many("+1", 60) + " by 1" + many("+1", 30));
        fails("find yes and " + "1.0=1" + many("+1", 140), 6, 13 + 285);
        fits("fold sum long(1)" + many("+1", 66));
        fails("fold sum long(1)" + many("+1", 67), 6, 16 + 134);
        fits("fold sum (1" + many("+1", 97) + ")+long(-1)");
        fails("fold sum (1" + many("+1", 97) + ")+long(--1)", 6, 9 + 196 + 11);
        fits("set $4 := " + "1" + many("+1", 98));
        fails("set $4 := " + "1" + many("+1", 99), 6, 10 + 199);
    }

    private static void pile() {
        // Within each ( four values more lie below: of & << + *.
        String four = "1&1<<1+1*(";
        fits("fold sum " + many(four, 5) + "1+1*1" + many(")", 5));
        fits("fold sum " + many(four, 5) + "1&1<<1+1" + many(")", 5));
        fails("fold sum " + many(four, 5) + "1&1<<1+1*1" + many(")", 5), 6, 9 + 50 + 10 + 5);
        fails("set $4 := " + many(four, 5) + "1&1<<1+1" + many(")", 5), 6, 10 + 50 + 8 + 5);
        fits("set $4 := " + many(four, 5) + "1&1<<1" + many(")", 5));
        fails("fold sum " + many(four, 5) + "1&1<<1+(1=1 and 1=1?1:2)" + many(")", 5), 6, 9 + 50 + 24 + 5);
        fails("fold sum " + many(four, 5) + "1&1<<1+1*(1=1?1:2)" + many(")", 5), 6, 9 + 50 + 18 + 5);
        fits("fold sum " + many(four, 5) + "1&1<<1+(yes?1:2)" + many(")", 5));
    }
}
