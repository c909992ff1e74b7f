/**
 * The document from its first line to its last: for each of its sentences (told here in its own
 * words, cut where they are long) calls whose answers were worked out by hand from that sentence.
 */
public final class SentencesTest {
    private static final Calls calls = new Calls();
    private static final long LOST = Long.MIN_VALUE;
    private static String sentence = "";

    public static void main(String[] args) {
        whatItIs();
        answersBelow0();
        terms1();
        terms2Tokens();
        terms2Queries();
        terms2Sums();
        terms2Faults();
        terms2WhenFaultsAreMet();
        terms2Kinds();
        terms2What();
        terms3Parts();
        terms3Lays();
        terms3Pairs();
        terms3Functions();
        terms3Jumps();
        terms4Run();
        terms4Find();
        terms4Fold();
        terms4Set();
        promises1To10();
        promises11To14();
        promises15To21();
        calls.done();
    }

    private static void says(String words) {
        sentence = words;
    }

    private static void due(String call, long got, long want) {
        calls.due("'" + sentence + "': " + call, got, want);
    }

    private static void due(String call, String got, String want) {
        calls.due("'" + sentence + "': " + call, got, want);
    }

    /** Three OBJECTS; $0 .. $7 are of LANES 0 .. 7, with three CELLS each; $8 is MISSING, $9 is the same as $4. */
    private static QueryClasses made() {
        QueryClasses x = new QueryClasses();
        x.objects(3);
        for (int lane = 0; lane < 8; lane++) x.column(lane, lane, 3);
        x.share(9, 4);
        for (int i = 0; i < 3; i++) {
            x.put(0, i, i & 1);
            for (int c = 1; c < 6; c++) x.put(c, i, 10 * c + i);
            x.put(6, i, Calls.bits(0.5f + i));
            x.put(7, i, Calls.bits(2.25 - i));
        }
        return x;
    }

    private static void code(String text, String where, String sum, String by) {
        QueryClasses x = made();
        due(text, Calls.ask(x, text), 0);
        due(text + ": PART 0", Calls.code(x, 0, 0), where);
        due(text + ": PART 1", Calls.code(x, 0, 1), sum);
        due(text + ": PART 2", Calls.code(x, 0, 2), by);
    }

    /** Of a sum of numbers; min leaves it as it is. */
    private static void sum(String sum, String code) {
        code("fold min " + sum, "", code, "");
    }

    private static void truth(String or, String code) {
        code("find " + or, code, "", "");
    }

    private static void wrong(String text, int fault, int place) {
        QueryClasses x = made();
        due(text, Calls.ask(x, text), -10 - place);
        due(text + ": FAULT", x.fault(), fault);
    }

    private static void right(String... texts) {
        for (String text : texts) {
            QueryClasses x = made();
            due(text, Calls.ask(x, text), 0);
            due(text + ": FAULT", x.fault(), 0);
        }
    }

    /** What a sum is for OBJECT 0. */
    private static void is(String sum, long want) {
        QueryClasses x = made();
        x.objects(1);
        due(sum, x.run(Calls.ask(x, "fold max " + sum)), 1);
        due(sum, x.value(0), want);
    }

    private static void is(String sum, double want) {
        is(sum, Calls.bits(want));
    }

    /** How a sum fails for OBJECT 0. */
    private static void fails(String sum, int fault, int act) {
        QueryClasses x = made();
        x.objects(1);
        due(sum, x.run(Calls.ask(x, "fold max " + sum)), -10);
        due(sum + ": FAULT", x.told(0), fault);
        due(sum + ": PART", x.told(1), 1);
        due(sum + ": ACT", x.told(2), act);
    }

    private static void runs(QueryClasses x, String text, int want) {
        due(text, x.run(Calls.ask(x, text)), want);
    }

    private static void cells(QueryClasses x, int c, long... want) {
        for (int i = 0; i < want.length; i++) due("cell(" + c + ", " + i + ")", x.cell(c, i), want[i]);
    }

    private static void hits(QueryClasses x, int... want) {
        due("HITS", x.told(4), want.length);
        for (int k = 0; k < want.length; k++) due("hit(" + k + ")", x.hit(k), want[k]);
        due("hit(" + want.length + ")", x.hit(want.length), -1);
    }

    private static void whatItIs() {
        says("hits by order, folds by groups, cells that are set");
        QueryClasses x = made();
        runs(x, "find $4>=41 order -$4", 2);
        hits(x, 2, 1);
        runs(x, "fold count by $4/42", 2);
        hits(x, 2, 1);
        runs(x, "set $4 := 7", 3);
        cells(x, 4, 7, 7, 7);
        says("a run that fails names its object, and leaves all as it was");
        runs(x, "set $4 := 7/(1-row)", -11);
        cells(x, 4, 7, 7, 7);
        says("An object is used for at most 512 calls after it has been made");
        QueryClasses y = new QueryClasses();
        for (int call = 0; call < 511; call++) y.feed(0, 0, 0, 0, 0);
        due("the 512th", y.count(3), 400);
    }

    private static void answersBelow0() {
        says("BAD (-1 ..), FULL (-2), NO (-3, as told)");
        due("BAD", QueryClasses.BAD, -1);
        due("FULL", QueryClasses.FULL, -2);
        due("NO", QueryClasses.NO, -3);
        due("NONE", QueryClasses.NONE, -1);
        due("LOST", QueryClasses.LOST, LOST);
        says("the first of these");
        QueryClasses x = new QueryClasses();
        due("put(10, 0, 0)", x.put(10, 0, 0), -1);
        due("put(0, -1, 0)", x.put(0, -1, 0), -1);
        due("put(0, 0, 0)", x.put(0, 0, 0), -3);
        says("They change nothing");
        x = made();
        String before = Calls.state(x);
        due("objects(17)", x.objects(17), -1);
        due("column(4, 4, 17)", x.column(4, 4, 17), -1);
        due("share(4, 10)", x.share(4, 10), -1);
        due("drop(10)", x.drop(10), -1);
        due("put(4, 3, 0)", x.put(4, 3, 0), -1);
        due("put(8, 0, 0)", x.put(8, 0, 0), -3);
        due("end(1)", x.end(1), -1);
        due("run(0)", x.run(0), -1);
        due("all of it", Calls.state(x), before);
    }

    private static void terms1() {
        says("OBJECTS are 0 .. N - 1 (N is 0 to 16, 0 at first)");
        QueryClasses x = new QueryClasses();
        runs(x, "find yes", 0);
        due("objects(16)", x.objects(16), 0);
        due("objects(17)", x.objects(17), -1);
        due("run(0)", x.run(0), 16);
        hits(x, 0, 1, 2, 3, 4, 5, 6, 7, 8, 9, 10, 11, 12, 13, 14, 15);
        says("COLUMNS 0 .. 9 are MISSING (at first), or a row of a LANE with 0 to 16 CELLS (0 at first)");
        for (int c = 0; c < 10; c++) due("about(" + c + ", 0)", x.about(c, 0), -1);
        due("column(9, 0, 0)", x.column(9, 0, 0), 1);
        due("its CELLS", x.about(9, 1), 0);
        due("column(9, 0, 16)", x.column(9, 0, 16), 1);
        cells(x, 9, 0, 0, 0, 0, 0, 0, 0, 0, 0, 0, 0, 0, 0, 0, 0, 0, LOST);
        due("column(10, 0, 0)", x.column(10, 0, 0), -1);
        says("LANES 0 truths, 1 bytes, 2 shorts, 3 chars, 4 ints, 5 longs, 6 floats, 7 doubles");
        long[] kept = {1, -2, -2, 65534, -2, -2, 0, 0};
        for (int lane = 0; lane < 6; lane++) {
            x.column(0, lane, 1);
            x.put(0, 0, -2);
            cells(x, 0, kept[lane]);
        }
        due("column(0, 8, 1)", x.column(0, 8, 1), -1);
        due("column(0, -1, 1)", x.column(0, -1, 1), -1);
        says("One row may be several COLUMNS (it is the same one then)");
        x = made();
        x.put(9, 1, 77);
        cells(x, 4, 40, 77, 42);
        runs(x, "set $9 := $4+1", 3);
        cells(x, 4, 41, 78, 43);
        says("BITS of a CELL: of a float its 32 (as an int), of a double its 64, else the number (1, 0)");
        x.put(6, 0, Calls.bits(-1.0f));
        cells(x, 6, -1082130432L);
        x.put(7, 0, Calls.bits(-1.0));
        cells(x, 7, -4616189618054758400L);
        x.put(0, 0, 256);
        cells(x, 0, 1);
        terms1Faults();
    }

    private static void terms1Faults() {
        says("FAULTS of a RUN: 1 NULL, 2 INDEX, 3 CAST, 4 ZERO, 5 ENDLESS (no number would come), 6 ROOM");
        QueryClasses x = made();
        int q = Calls.ask(x, "fold max $4");
        x.drop(4);
        due("NULL", x.run(q), -10);
        due("told(0)", x.told(0), 1);
        x.column(4, 5, 3);
        due("CAST", x.run(q), -10);
        due("told(0)", x.told(0), 3);
        x.column(4, 4, 2);
        due("INDEX", x.run(q), -12);
        due("told(0)", x.told(0), 2);
        runs(x, "find 1%row=0", -10);
        due("told(0)", x.told(0), 4);
        runs(x, "find 0.0/row=0", -10);
        due("told(0)", x.told(0), 5);
        x.objects(9);
        runs(x, "fold count by row", -18);
        due("told(0)", x.told(0), 6);
        says("(no number would come)");
        is("1.0/0.0", Double.POSITIVE_INFINITY);
        is("-1.0/0.0", Double.NEGATIVE_INFINITY);
        fails("1.0/0.0-1.0/0.0", 5, 6);
    }

    private static void terms2Tokens() {
        says("THE TAPE has up to 400 bytes, places from 0");
        QueryClasses x = made();
        Calls.lay(x, "@" + " ".repeat(399));
        due("count(3)", x.count(3), 400);
        due("query()", x.query(), -10);
        says("TOKENS, each as long as may be, with blanks (32, 10) between");
        right("find yes", "find\nyes", " find  \n yes \n", "find 1>>>1>0", "find$0or$0", "find 8>=7");
        wrong("findyes", 2, 0);
        wrong("find 8> =7", 2, 8);
        wrong("find\tyes", 1, 4);
        wrong("find\ryes", 1, 4);
        says("WORDS (rows of a .. z)");
        wrong("find zebra", 2, 5);
        wrong("find Yes", 1, 5);
        wrong("find ye s", 2, 5);
        says("NUMBERS (figures, 2147483647 at most)");
        is("2147483647", 2147483647L);
        is("0000000000007", 7);
        wrong("find 1=2147483648", 1, 7);
        says("REALS (figures . figures, 9 figures in all at most ..)");
        is("12345678.9", 12345678.9);
        is("0.00000001", 0.00000001);
        wrong("find 1=123456789.0", 1, 7);
        wrong("find 1=.5", 1, 7);
        wrong("find 1=5.", 1, 8);
        says("the double that is all figures as a whole number, divided once by 10 to as many as stand behind the point");
        is("0.3", 3 / 10.0);
        is("1.10", 110 / 100.0);
        is("98765.4321", 987654321 / 10000.0);
        says("COLUMNS ($ and a figure)");
        truth("$0", "3 10");
        sum("$9", "3 14:9");
        wrong("find $0 0", 2, 8);
        wrong("find $00", 2, 7);
        wrong("find $a", 1, 5);
        says("SIGNS + - * / % & | ^ ~ ( ) [ ] , = != < > <= >= << >> >>> ? : :=");
        right("find (1+1=1) or 1=1", "find -1*2/3%4=1", "find (1&2|3^4)=~5", "find min(1,2)!=$4[0]",
            "find 1<2 or 1>2 or 1<=2 or 1>=2", "find 1<<2>>3>>>4=1", "fold max yes?1:2", "set $4:=1");
        for (String no : new String[] {"!", "\"", "#", "'", ".", ";", "@", "\\", "_", "`", "{", "}", "A", "Z", "\0", "\u007f", "\u0080", "\u00ff"}) {
            wrong("find " + no + "yes", 1, 5);
        }
    }

    private static void terms2Queries() {
        says("find or [ order sum [ down ] ] [ first NUMBER ]");
        right("find yes", "find yes order 1", "find yes order 1 down", "find yes first 1", "find yes order 1 down first 1",
            "find yes order yes?1:2 first 0", "find yes or no");
        wrong("find", 2, 4);
        wrong("find yes down", 2, 9);
        wrong("find yes first 1 order 1", 2, 17);
        wrong("find yes?yes:no", 2, 8);
        wrong("find yes first row", 2, 15);
        wrong("find yes where yes", 2, 9);
        says("fold how [ where or ] [ by sum ]");
        right("fold count", "fold count where yes", "fold count by 1", "fold count where yes by 1", "fold count by yes?1:2");
        wrong("fold", 2, 4);
        wrong("fold count by 1 where yes", 2, 16);
        wrong("fold count where yes?yes:no", 2, 20);
        wrong("fold count first 1", 2, 11);
        says("set COLUMN := sum [ where or ]");
        right("set $4 := 1", "set $4 := 1 where yes", "set $4 := yes?1:2 where yes or no");
        wrong("set", 2, 3);
        wrong("set 4 := 1", 2, 4);
        wrong("set $4 = 1", 2, 7);
        wrong("set $4[0] := 1", 2, 6);
        wrong("set $4 := 1 by 1", 2, 12);
        says("how: count | ( sum | min | max | mean ) sum");
        right("fold sum 1", "fold min 1", "fold max 1", "fold mean 1", "fold sum yes?1:2", "fold min min(1,2)");
        wrong("fold count 1", 2, 11);
        wrong("fold sum", 2, 8);
        wrong("fold abs 1", 2, 5);
        wrong("1", 2, 0);
        wrong("yes", 2, 0);
    }

    private static void terms2Sums() {
        says("sum: or [ ? sum : sum ]");
        sum("yes?1:no?2:3", "1:1 1800:4 1:1 1802:9 1 1800:8 1:2 1802:9 1:3");
        wrong("fold max yes?1", 2, 14);
        says("or: and { or and }");
        truth("no or yes and no", "1 1801:8 1:1 1800:6 1 1802:7 1 1802:9 1:1");
        says("and: not { and not }");
        truth("not no and no", "1 1810 1800:5 1 1802:6 1");
        says("not: not not | test");
        truth("not not 1=1", "1:1 1:1 1401 1500 1810 1810");
        says("test: mix [ ( = | != | < | > | <= | >= ) mix ]");
        truth("1&2=3", "1:1 1:2 601 1:3 1401 1500");
        wrong("find 1=1=yes", 2, 8);
        says("mix: shift { ( & | \"|\" | ^ ) shift }");
        sum("1^2&3|4<<5", "1:1 1:2 801 1:3 601 1:4 1:5 901 701");
        says("shift: plus { ( << | >> | >>> ) plus }");
        sum("1<<2+3>>4>>>5", "1:1 1:2 1:3 101 901 1:4 1001 1:5 1101");
        says("plus: times { ( + | - ) times }");
        sum("1-2*3+4", "1:1 1:2 1:3 301 201 1:4 101");
        says("times: sign { ( * | / | % ) sign }");
        sum("1*-2/3%~4", "1:1 1:2 1201 301 1:3 401 1:4 1301 501");
        says("sign: ( - | ~ ) sign | part");
        sum("-~-1", "1:1 1201 1301 1201");
        wrong("fold max +1", 2, 9);
        says("part: NUMBER | REAL | row | yes | no | COLUMN [ \"[\" sum \"]\" ] | fn ( sum { , sum } ) | ( sum )");
        sum("7", "1:7");
        sum("7.5", "2");
        sum("row", "3");
        truth("yes", "1:1");
        truth("no", "1");
        sum("$4", "3 14:4");
        sum("$4[yes?1:2]", "1:1 1800:4 1:1 1802:5 1:2 14:4");
        sum("(yes?1:2)", "1:1 1800:4 1:1 1802:5 1:2");
        sum("abs(yes?1:2)", "1:1 1800:4 1:1 1802:5 1:2 1701");
        wrong("fold max by", 2, 9);
        says("fn: abs floor ceil rint sign (one), min max (two), byte short char int long float double (one)");
        for (String one : new String[] {"abs", "floor", "ceil", "rint", "sign", "byte", "short", "char", "int", "long", "float", "double"}) {
            right("fold max " + one + "(1)");
            wrong("fold max " + one + "(1,2)", 2, 9 + one.length() + 2);
            wrong("fold max " + one + " 1", 2, 9 + one.length() + 1);
        }
        right("fold max min(1,2)", "fold max max(1,2)");
        wrong("fold max min(1)", 2, 14);
        wrong("fold max max(1,2,3)", 2, 16);
        wrong("fold max sum(1)", 2, 9);
        wrong("fold max mean(1)", 2, 9);
    }

    private static void terms2Faults() {
        says("1 no TOKEN (also a NUMBER, REAL that is too great, too long; $ without a figure): its first byte");
        wrong("find yes or  #", 1, 13);
        wrong("find yes or  99999999999", 1, 13);
        wrong("find yes or  1.0000000000", 1, 13);
        wrong("find yes or  $", 1, 13);
        says("2 a TOKEN that cannot stand there (or the end: the length)");
        wrong("find yes or or", 2, 12);
        wrong("find yes or  ", 2, 13);
        wrong("", 2, 0);
        says("3 the 13th of ( [ ? - ~ not (- ~ not ahead of what they are of) that would be open, to their ends ..: that TOKEN");
        right("fold max " + "(".repeat(12) + "1" + ")".repeat(12), "fold max -1-1-1-1-1-1-1-1-1-1-1-1-1-1-1",
            "find not (not (not (not (not (not no)))))");
        wrong("fold max " + "(".repeat(13) + "1" + ")".repeat(13), 3, 21);
        wrong("fold max " + "$4[".repeat(13), 3, 47);
        wrong("fold max " + "-".repeat(13) + "1", 3, 21);
        wrong("fold max " + "~".repeat(13) + "1", 3, 21);
        wrong("find " + "not ".repeat(13) + "no", 3, 53);
        wrong("fold max " + "abs(".repeat(13), 3, 60);
        says("(of ? that of the sum behind its : )");
        right("fold max " + "yes?1:".repeat(12) + "1", "fold max " + "(yes?1:1)+".repeat(13) + "1");
        wrong("fold max " + "yes?1:".repeat(13) + "1", 3, 84);
        wrong("fold max " + "yes?".repeat(13) + "1", 3, 60);
        says("4 a KIND that does not fit: the TOKEN told below");
        wrong("find yes+1=1", 4, 8);
        says("5 a COLUMN that is MISSING: it");
        wrong("find $8", 5, 5);
        wrong("set $8 := 1", 5, 4);
        says("Then 6: its code would have more than 200 ACTS in one PART, or a PILE of more than 24: the length");
        right("fold max 1" + "+1".repeat(99));
        wrong("fold max 1" + "+1".repeat(100), 6, 210);
        right("fold max " + "1&1<<1+(".repeat(7) + "1+1-1*1" + ")".repeat(7));
        wrong("fold max " + "1&1<<1+(".repeat(7) + "1&1<<1+1" + ")".repeat(7) + " ", 6, 81);
    }

    private static void terms2WhenFaultsAreMet() {
        says("FAULTS of a text, the first met as it is read");
        wrong("find # )", 1, 5);
        wrong("find ) #", 2, 5);
        wrong("find yes+1 $8", 4, 8);
        says("A TOKEN is read, and may be 1, when the one before has been taken");
        wrong("find yes+1 #", 1, 11);
        wrong("find 1 #", 1, 7);
        wrong("fold max abs(yes)#", 1, 17);
        says("4 is looked at when all of what is joined has been taken");
        wrong("find yes+1*$8", 5, 11);
        wrong("find yes+1+$8", 4, 8);
        wrong("find yes+(1*)", 2, 12);
        wrong("fold max min(yes,$8)", 5, 17);
        wrong("fold max -yes*$8", 4, 9);
        says("but T ahead of ? when ? is met, behind its 3");
        wrong("fold max 1?$8:1", 4, 10);
        wrong("fold max 1?#", 4, 10);
        wrong("fold max " + "(".repeat(12) + "1?1:1", 3, 22);
        wrong("fold max " + "(".repeat(11) + "1?1:1", 4, 21);
        says("5 when the COLUMN is met");
        wrong("find $8#", 5, 5);
        wrong("find $8[", 5, 5);
        wrong("set $8#", 5, 4);
        wrong("find yes $8", 2, 9);
    }

    private static void terms2Kinds() {
        says("NUMBERS, row: I; REALS: D; yes, no: T; a COLUMN by its LANE now (1 to 4: I)");
        sum("-1", "1:1 1201");
        sum("-row", "3 1201");
        sum("-1.0", "2 1204");
        wrong("fold max -yes", 4, 9);
        wrong("fold max -no", 4, 9);
        for (int lane = 1; lane < 8; lane++) sum("-$" + lane, "3 " + (10 + lane) + ":" + lane + " " + (lane < 5 ? 1201 : 1197 + lane));
        wrong("fold max -$0", 4, 9);
        QueryClasses x = made();
        x.column(4, 7, 3);
        due("fold min -$4", Calls.ask(x, "fold min -$4"), 0);
        due("by its LANE now", Calls.code(x, 0, 1), "3 17:4 1204");
        x.drop(4);
        due("by its LANE then", Calls.code(x, 0, 1), "3 17:4 1204");
        says("Of two numbers both become the later one in I J F D");
        sum("1*$5", "1:1 1612 3 15:5 302");
        sum("$5*1", "3 15:5 1:1 1612 302");
        sum("1*$6", "1:1 1613 3 16:6 303");
        sum("$6*$5", "3 16:6 3 15:5 1623 303");
        sum("$6*1.0", "3 16:6 1634 2 304");
        sum("1.0*$5", "2 3 15:5 1624 304");
        sum("1.0*1", "2 1:1 1614 304");
    }

    private static void terms2What() {
        String[] parts = {"yes", "1", "$5", "$6", "1.0"};
        for (int a = 0; a < 5; a++) {
            for (int b = 0; b < 5; b++) {
                boolean numbers = a > 0 && b > 0, truths = a + b == 0, whole = numbers && a < 3 && b < 3;
                says("+ - * / % < > <= >=: numbers");
                for (String s : "+ - * / % < > <= >=".split(" ")) pair(parts[a], s, parts[b], numbers);
                says("= !=: numbers, or both T");
                for (String s : "= !=".split(" ")) pair(parts[a], s, parts[b], numbers || truths);
                says("& | ^: both T, or both I, J");
                for (String s : "& | ^".split(" ")) pair(parts[a], s, parts[b], whole || truths);
                says("<< >> >>>: I, J each");
                for (String s : "<< >> >>>".split(" ")) pair(parts[a], s, parts[b], whole);
                says("or and not: T");
                for (String s : "or and".split(" ")) pair(parts[a], s, parts[b], truths);
                says("both behind numbers, or both T (at the : )");
                String text = "fold max (yes ? " + parts[a] + " : " + parts[b] + ")=" + parts[a] + "?1:1";
                if (numbers || truths) right(text);
                else wrong(text, 4, 17 + parts[a].length());
                says("abs min max: numbers");
                text = "fold max min(" + parts[a] + "," + parts[b] + ")";
                if (numbers) right(text);
                else wrong(text, 4, 12);
            }
            one(parts[a], a);
        }
        says("(the answer is of the left one's KIND; the right one becomes I)");
        sum("-(1<<$5)", "1:1 3 15:5 1621 901 1201");
        sum("-($5<<1)", "3 15:5 1:1 902 1202");
        says("floor ceil rint: numbers, which become D");
        sum("floor($6)", "3 16:6 1634 1714");
        says("sign: numbers, of which I, J become D");
        sum("sign(1)", "1:1 1614 1744");
        sum("sign($5)", "3 15:5 1624 1744");
        sum("sign($6)", "3 16:6 1743");
        says("the casts: .. of which byte, short, char go by way of I");
        sum("byte(1.0)", "2 1641 1651");
        sum("short($5)", "3 15:5 1621 1652");
        sum("char(1)", "1:1 1653");
        sum("int($6)", "3 16:6 1631");
        sum("long(1)", "1:1 1612");
        sum("float(1)", "1:1 1613");
        sum("double(1)", "1:1 1614");
    }

    private static void pair(String left, String sign, String right, boolean fits) {
        String sum = "(" + left + " " + sign + " " + right + ")", text = "fold max " + sum + "=" + sum + "?1:1";
        if (fits) right(text);
        else wrong(text, 4, 11 + left.length());
    }

    private static void one(String part, int kind) {
        boolean number = kind > 0, whole = kind == 1 || kind == 2;
        says("or and not: T");
        fit("find not " + part, !number, 5);
        says("? : T ahead of ? (at it)");
        fit("fold max " + part + " ? 1:1", !number, 10 + part.length());
        says("-: a number; ~: I, J (at the SIGN)");
        fit("fold max -" + part, number, 9);
        fit("fold max ~" + part, whole, 9);
        says("[ ]: I (at the [ )");
        fit("fold max $4 [" + part + "]", kind == 1, 12);
        says("of fn at its (");
        for (String fn : "abs floor ceil rint sign byte short char int long float double".split(" ")) {
            fit("fold max " + fn + " (" + part + ")", number, 10 + fn.length());
        }
        says("The or of find, where: T .. (else 4 at the TOKEN behind it)");
        fit("find " + part + " first 1", !number, 6 + part.length());
        fit("fold count where " + part, !number, 17 + part.length());
        says("the sum of order, how: numbers .. (else 4 at the TOKEN behind it)");
        fit("find yes order " + part + " down", number, 16 + part.length());
        for (String how : "sum min max mean".split(" ")) fit("fold " + how + " " + part + " by 1", number, 7 + how.length() + part.length());
        says("of by: I, J (else 4 at the TOKEN behind it)");
        fit("fold count by " + part, whole, 14 + part.length());
        says("set: T for LANE 0, else numbers (else 4 at the := )");
        fit("set $0 := " + part, !number, 7);
        for (int lane = 1; lane < 8; lane++) fit("set $" + lane + " := " + part, number, 7);
    }

    private static void fit(String text, boolean fits, int place) {
        if (fits) right(text);
        else wrong(text, 4, place);
    }

    private static void terms3Parts() {
        says("PARTS 0 (where, the or of find), 1 (sum, order; the sum of set, how), 2 (by)");
        code("find yes", "1:1", "", "");
        code("find yes order 1.5", "1:1", "2", "");
        code("fold sum $5 where no by row", "1", "3 15:5", "3");
        code("fold count", "", "", "");
        code("set $4 := 7 where no", "1", "3 1:7 24:4", "");
        says("Both sides stand one behind the other, the left one first, each with what makes it of the KIND wanted right behind it, then the ACT");
        sum("(1+2)-(3*$5)", "1:1 1:2 101 1612 1:3 1612 3 15:5 302 202");
        sum("min(1-2,$6)", "1:1 1:2 201 1613 3 16:6 1753");
        truth("1+2<1.5", "1:1 1:2 101 1614 2 1404 1502");
        sum("1+(no?2.5:3.5)", "1:1 1614 1 1800:6 2 1802:7 2:1 104");
        sum("(no?1:2)+3.5", "1 1800:4 1:1 1802:5 1:2 1614 2 104");
        says("Where a KIND is wanted that it has: nothing");
        sum("int(1)", "1:1");
        sum("double(1.5)", "2");
        code("fold sum $5", "", "3 15:5", "");
        code("set $4 := $9", "", "3 3 14:9 24:4", "");
    }

    private static void terms3Lays() {
        says("1 lays a");
        is("7", 7);
        says("2 lays REAL a of the query (by their order in the text)");
        code("fold sum 1.5+2.5 where 3.5>1 by int(4.5)", "2:2 1:1 1614 1404 1503", "2 2:1 104", "2:3 1641");
        is("9.0-2.5*3.5", 0.25);
        QueryClasses x = made();
        runs(x, "fold sum 1.5 where 0.5<row", 1);
        due("value(0)", x.value(0), Calls.bits(3.0));
        says("3 lays the OBJECT");
        runs(x, "fold sum row", 1);
        due("value(0)", x.value(0), 3);
        says("10 + l takes an index, lays that CELL of COLUMN a, TAKEN as LANE l (as T, I, J, F, D)");
        is("$0[1]?$1[2]:$1[1]", 12);
        is("$2[1]", 21);
        is("$3[2]", 32);
        is("$9[2]", 42);
        is("$5[1]", 51);
        is("$6[1]", Calls.bits(1.5f));
        is("$7[2]", 0.25);
        says("CAST, NULL, INDEX");
        fails("$4[3]", 2, 1);
        fails("$4[-1]", 2, 2);
        says("(A COLUMN without [ ] has 3 ahead of it; yes, no are 1 with 1, 0.)");
        sum("$4[row]", "3 14:4");
        truth("yes and no", "1:1 1800:4 1 1802:5 1");
        says("20 + l takes a value, then an index: that CELL becomes it (3 stands ahead of set's sum, which becomes what the LANE has as by casts, then 20 + l)");
        code("set $0 := no", "", "3 1 20", "");
        code("set $1 := 1.5", "", "3 2 1641 1651 21:1", "");
        code("set $2 := 1", "", "3 1:1 1652 22:2", "");
        code("set $3 := $5", "", "3 3 15:5 1621 1653 23:3", "");
        code("set $5 := $6", "", "3 3 16:6 1632 25:5", "");
        code("set $6 := 1", "", "3 1:1 1613 26:6", "");
        code("set $7 := $5", "", "3 3 15:5 1624 27:7", "");
        x = made();
        runs(x, "set $1 := 200.9", 3);
        cells(x, 1, -56, -56, -56);
        says("likewise");
        int q = Calls.ask(x, "set $5 := 9");
        x.column(5, 5, 1);
        due("INDEX", x.run(q), -11);
        due("told(0)", x.told(0), 2);
        x.column(5, 4, 3);
        due("CAST", x.run(q), -10);
        due("told(0)", x.told(0), 3);
        x.drop(5);
        due("NULL", x.run(q), -10);
        due("told(0)", x.told(0), 1);
        due("told(2)", x.told(2), 3);
    }

    private static void terms3Pairs() {
        says("100 + k + (of the two on top), 200 -, 300 *");
        is("2147483647+1", -2147483648L);
        is("long(2147483647)+1", 2147483648L);
        is("-2147483647-2", 2147483647L);
        is("65536*65536", 0);
        is("long(65536)*65536", 4294967296L);
        is("float(16777216)+1", Calls.bits(16777216f));
        is("0.1+0.2", 0.1 + 0.2);
        says("400 / (ZERO; ENDLESS), 500 % (likewise)");
        is("-7/2", -3);
        is("-7%2", -1);
        is("-7.5%2", -1.5);
        is("1/0.0", Double.POSITIVE_INFINITY);
        fails("1/0", 4, 2);
        fails("1%0", 4, 2);
        fails("$5/0", 4, 4);
        fails("0/0.0", 5, 3);
        fails("1%0.0", 5, 3);
        is("1%(1/0.0)", 1.0);
        says("600 &, 700 |, 800 ^ (T as k 1)");
        is("12&10", 8);
        is("12|10", 14);
        is("12^10", 6);
        is("(yes&no)|(yes^no)?1:0", 1);
        truth("yes&no", "1:1 1 601");
        says("900 <<, 1000 >>, 1100 >>> (the second an int)");
        is("1<<33", 2);
        is("long(1)<<33", 8589934592L);
        is("-8>>1", -4);
        is("-8>>>1", 2147483644L);
        is("-long(8)>>>1", 9223372036854775804L);
        says("1200 + k less itself, 1300 + k all bits turned");
        is("-$4", -40);
        is("-0.0", -0.0);
        is("~$4", -41);
        is("~$5", -51);
        says("1400 + k -1, 0, 1: the first is less, as much, more (T as k 1), 1500 + r .. a truth by what 1400 laid");
        truth("yes!=no", "1:1 1 1401 1501");
        String[] tests = {"=", "!=", "<", ">", "<=", ">="};
        int[] less = {0, 1, 1, 0, 1, 0}, same = {1, 0, 0, 0, 1, 1}, more = {0, 1, 0, 1, 0, 1};
        for (int r = 0; r < 6; r++) {
            truth("1" + tests[r] + "2", "1:1 1:2 1401 " + (1500 + r));
            is("1" + tests[r] + "2?1:0", less[r]);
            is("2.0" + tests[r] + "2?1:0", same[r]);
            is("$5" + tests[r] + "2?1:0", more[r]);
            is("-0.0" + tests[r] + "0.0?1:0", same[r]);
        }
        says("1600 + 10 i + k KIND i becomes KIND k, 1651, 1652, 1653 an int as a byte, short, char");
        is("int(2.9)", 2);
        is("int(-2.9)", -2);
        is("int(3.0*2147483647)", 2147483647L);
        is("byte(200)", -56);
        is("short(40000)", -25536);
        is("char(-1)", 65535);
        is("float(0.1)", Calls.bits(0.1f));
        says("(100 to 300 of F, D: ENDLESS too.)");
        fails("1/0.0+-1/0.0", 5, 9);
        fails("1/0.0-1/0.0", 5, 8);
        fails("0*(1/0.0)", 5, 6);
        fails("0*(1/float(0))", 5, 7);
    }

    private static void terms3Functions() {
        says("1700 + k abs");
        is("abs(-7)", 7);
        is("abs(-2147483647-1)", -2147483648L);
        is("abs(-0.0)", 0.0);
        is("abs(-$6)", Calls.bits(0.5f));
        says("1711 floor, 1721 ceil, 1731 rint (of doubles, each with a 4 behind: 1714, 1724, 1734)");
        sum("floor(1.5)", "2 1714");
        sum("ceil(1.5)", "2 1724");
        sum("rint(1.5)", "2 1734");
        is("floor(-1.5)", -2.0);
        is("ceil(-1.5)", -1.0);
        is("ceil(-0.5)", -0.0);
        is("rint(2.5)", 2.0);
        is("rint(3.5)", 4.0);
        is("rint(-0.5)", -0.0);
        says("1740 + k sign (k 3, 4: 1.0, -1.0, or itself)");
        is("sign(7)", 1.0);
        is("sign(-7)", -1.0);
        is("sign(0)", 0.0);
        is("sign(-0.0)", -0.0);
        is("sign($6)", Calls.bits(1f));
        says("1750 + k min, 1760 + k max (-0.0 is less than 0.0)");
        is("min(-0.0,0.0)", -0.0);
        is("min(0.0,-0.0)", -0.0);
        is("max(-0.0,0.0)", 0.0);
        is("max(0.0,-0.0)", 0.0);
        is("min(3,-4)", -4);
        is("max(3,$5)", 50);
    }

    private static void terms3Jumps() {
        says("1800, 1801, 1802: to ACT a if the truth taken is no, is yes, always");
        is("no?1:2", 2);
        is("yes?1:2", 1);
        says("1810 not");
        truth("not no", "1 1810");
        is("not no?1:2", 1);
        says("x and y: x, 1800 to e, y, 1802 to f, e: 1 with 0, f");
        truth("1=1 and no", "1:1 1:1 1401 1500 1800:7 1 1802:8 1");
        says("x or y: x, 1801 to e, y, 1802 to f, e: 1 with 1, f");
        truth("1=1 or no", "1:1 1:1 1401 1500 1801:7 1 1802:8 1:1");
        says("c ? x : y: c, 1800 to e, x, 1802 to f, e: y, f");
        sum("no?1:$5", "1 1800:5 1:1 1612 1802:7 3 15:5");
        says("(f may be the end. ..)");
        sum("no?1:2", "1 1800:4 1:1 1802:5 1:2");
        says("- before a NUMBER is an ACT, too");
        sum("-7", "1:7 1201");
        says("all else as Java has it");
        is("no and 1/0=1?1:2", 2);
        is("yes or 1/0=1?1:2", 1);
        is("yes?1:1/0", 1);
        says("A long that is taken as int << .. is 1600 + 21");
        sum("1<<$5", "1:1 3 15:5 1621 901");
        sum("$5>>$5", "3 15:5 3 15:5 1621 1002");
    }

    private static void terms4Run() {
        says("A RUN goes through all OBJECTS, rising: PART 0, if there is one (no: the OBJECT is passed by); then PART 1, then 2");
        QueryClasses x = made();
        runs(x, "fold max row where row!=1 by 7", 1);
        due("ACTS", x.told(3), 3 * 4 + 2 + 2);
        due("how many", x.hit(0), 2);
        runs(x, "fold max 1/0 where no by 1/0", 0);
        runs(x, "fold max 1/0 by 1%0", -10);
        due("PART 1 is ahead of 2", x.told(1), 1);
        says("In its code order's sum becomes D; that of sum J (of I, J), else D; that of mean D");
        code("find yes order $4", "1:1", "3 14:4 1614", "");
        code("fold sum $4", "", "3 14:4 1612", "");
        code("fold sum $6", "", "3 16:6 1634", "");
        code("fold mean $4", "", "3 14:4 1614", "");
        code("fold min $4", "", "3 14:4", "");
        says("A FAULT ends it: all CELLS that it set are as before");
        runs(x, "set $9 := $4[row+1]", -12);
        cells(x, 4, 40, 41, 42);
        due("ACTS", x.told(3), 2 * 6 + 4);
    }

    private static void terms4Find() {
        says("find: HITS in order, their SCORES (doubles, 0.0 without order) of PART 1 made D");
        QueryClasses x = made();
        runs(x, "find row!=1", 2);
        hits(x, 0, 2);
        due("score(1)", x.score(1), 0);
        runs(x, "find row!=1 order row", 2);
        due("score(1)", x.score(1), Calls.bits(2.0));
        says("by order: SCORES rising (down: falling), likes by OBJECT");
        runs(x, "find yes order $7", 3);
        hits(x, 2, 1, 0);
        runs(x, "find yes order row/2", 3);
        hits(x, 0, 1, 2);
        runs(x, "find yes order row/2 down", 3);
        hits(x, 2, 0, 1);
        says("the first NUMBER of them alone");
        runs(x, "find yes order $7 first 1", 1);
        hits(x, 2);
        runs(x, "find yes first 0", 0);
        hits(x);
        runs(x, "find yes first 7", 3);
    }

    private static void group(QueryClasses x, int k, int many, long key, long value) {
        due("how many", x.hit(k), many);
        due("KEY", x.score(k), key);
        due("VALUE", x.value(k), value);
    }

    private static void terms4Fold() {
        says("fold: HITS are the GROUPS (8 at most: ROOM; without by: one, also of none), in order of their first OBJECT");
        QueryClasses x = made();
        runs(x, "fold count by 5-row%2", 2);
        group(x, 0, 2, 5, 2);
        group(x, 1, 1, 4, 1);
        runs(x, "fold count where no", 1);
        group(x, 0, 0, 0, 0);
        runs(x, "fold count where no by 1", 0);
        x.objects(16);
        runs(x, "fold count by row&7", 8);
        runs(x, "fold count by row", -18);
        says("KEY (a long, 0 without by), how many OBJECTS, VALUE: count J");
        runs(x, "fold count by long(3)<<40", 1);
        group(x, 0, 16, 3298534883328L, 16);
        x.objects(3);
        x.clear();
        says("sum: J of I, J (wraps), else D (from 0.0 on; ENDLESS)");
        runs(x, "fold sum 2147483647", 1);
        group(x, 0, 3, 0, 6442450941L);
        runs(x, "fold sum long(1)<<62", 1);
        group(x, 0, 3, 0, -4611686018427387904L);
        runs(x, "fold sum $6", 1);
        group(x, 0, 3, 0, Calls.bits(4.5));
        runs(x, "fold sum -0.0", 1);
        group(x, 0, 3, 0, 0);
        runs(x, "fold sum (1-row)/0.0 where row!=1", -12);
        due("ENDLESS", x.told(0), 5);
        due("of the fold itself", x.told(1), 3);
        says("min, max: of the sum's KIND (of none: 0)");
        runs(x, "fold min $6", 1);
        group(x, 0, 3, 0, Calls.bits(0.5f));
        runs(x, "fold max $7", 1);
        group(x, 0, 3, 0, Calls.bits(2.25));
        runs(x, "fold max $4 where no", 1);
        group(x, 0, 0, 0, 0);
        says("mean: D: the sum as D, each made D, divided by how many (of none 0.0)");
        runs(x, "fold mean row*row", 1);
        group(x, 0, 3, 0, Calls.bits(5.0 / 3.0));
        runs(x, "fold mean row where no", 1);
        group(x, 0, 0, 0, 0);
    }

    private static void terms4Set() {
        says("set: HITS are the OBJECTS set, as they come (each at once)");
        QueryClasses x = made();
        runs(x, "set $4 := $4+(row=0?0:$9[row-1]) where row!=1 or yes", 3);
        cells(x, 4, 40, 81, 123);
        runs(x, "set $4 := 0 where row=2", 1);
        hits(x, 2);
        cells(x, 9, 40, 81, 0);
    }

    private static void promises1To10() {
        says("Promise 1: N is 0, all COLUMNS are MISSING, no queries");
        QueryClasses x = new QueryClasses();
        for (int what = 0; what < 4; what++) due("count", x.count(what), 0);
        says("Promise 2: N becomes n: what it was. BAD");
        due("objects(5)", x.objects(5), 0);
        due("objects(0)", x.objects(0), 5);
        due("objects(-1)", x.objects(-1), -1);
        says("Promise 3: A COLUMN becomes a new row: 1. BAD");
        due("column(3, 4, 2)", x.column(3, 4, 2), 1);
        due("column(3, 4, -1)", x.column(3, 4, -1), -1);
        says("Promise 4: COLUMN c becomes COLUMN d (the same one; MISSING, if that is): 1. BAD");
        due("share(5, 3)", x.share(5, 3), 1);
        x.put(5, 0, 9);
        cells(x, 3, 9, 0);
        x.column(3, 4, 2);
        cells(x, 5, 9, 0);
        due("share(3, 0)", x.share(3, 0), 1);
        due("about(3, 0)", x.about(3, 0), -1);
        due("share(-1, 0)", x.share(-1, 0), -1);
        says("Promise 5: A COLUMN is MISSING: whether it was there (1, 0). BAD");
        due("drop(5)", x.drop(5), 1);
        due("drop(5)", x.drop(5), 0);
        due("drop(-1)", x.drop(-1), -1);
        says("Promise 6: CELL i becomes BITS v (lowest bits; truths: not 0; of floats, doubles no number: BAD): 1. BAD; NO: MISSING");
        x = made();
        due("put(1, 0, 511)", x.put(1, 0, 511), 1);
        cells(x, 1, -1);
        due("put(0, 0, 1 << 33)", x.put(0, 0, 1L << 33), 1);
        cells(x, 0, 1);
        due("a float that is no number", x.put(6, 0, 0x7FC00000L), -1);
        due("a double that is no number", x.put(7, 0, 0x7FF8000000000000L), -1);
        due("a CELL there is not", x.put(1, 3, 0), -1);
        due("MISSING", x.put(8, 0, 0), -3);
        says("Promise 7: BITS of CELL i. LOST: there is none such");
        cells(x, 4, 40, 41, 42, LOST);
        due("cell(8, 0)", x.cell(8, 0), LOST);
        due("cell(-1, 0)", x.cell(-1, 0), LOST);
        due("cell(4, -1)", x.cell(4, -1), LOST);
        says("Promise 8: 0 its LANE, 1 how many CELLS (NONE both: MISSING), 2 the least COLUMN that is the same one (or MISSING, too). BAD is -2 here");
        due("about(9, 0)", x.about(9, 0), 4);
        due("about(9, 1)", x.about(9, 1), 3);
        due("about(9, 2)", x.about(9, 2), 4);
        due("about(8, 0)", x.about(8, 0), -1);
        due("about(8, 1)", x.about(8, 1), -1);
        due("about(8, 2)", x.about(8, 2), 8);
        x.drop(2);
        due("about(8, 2)", x.about(8, 2), 2);
        due("about(10, 0)", x.about(10, 0), -2);
        due("about(0, 3)", x.about(0, 3), -2);
        says("Promise 9: Twenty bytes, of each number the highest first, come behind THE TAPE: how many it has. FULL: more than 400");
        due("feed", x.feed(0x66696e64, 0x20796573, 0x20202020, 0x20202020, 0x2020206f), 20);
        due("feed", x.feed(0x72206e6f, 0x20202020, 0x20202020, 0x20202020, 0x20202020), 40);
        due("find yes or no", x.query(), 0);
        due("its code", Calls.code(x, 0, 0), "1:1 1801:4 1 1802:5 1:1");
        for (int n = 20; n <= 400; n += 20) due("feed", x.feed(0, 0, 0, 0, 0), n);
        due("feed", x.feed(0, 0, 0, 0, 0), -2);
        says("Promise 10: THE TAPE keeps its first n bytes: 1. BAD");
        due("end(401)", x.end(401), -1);
        due("end(12)", x.end(12), 1);
        due("end(13)", x.end(13), -1);
        due("feed", x.feed(0, 0, 0, 0, 0), 32);
    }

    private static void promises11To14() {
        says("Promise 11: THE TAPE (which is empty then) is a query: its number; or -10 less the place of its FAULT");
        QueryClasses x = made();
        due("find yes", Calls.ask(x, "find yes"), 0);
        due("count(3)", x.count(3), 0);
        due("find yes yes", Calls.ask(x, "find yes yes"), -19);
        due("count(3)", x.count(3), 0);
        says("Promise 12: The FAULT of the latest text (0: none)");
        due("fault()", x.fault(), 2);
        due("find no", Calls.ask(x, "find no"), 1);
        due("fault()", x.fault(), 0);
        says("Promise 11: FULL: 12 are there (THE TAPE stays)");
        for (int q = 2; q < 12; q++) due("find no", Calls.ask(x, "find no"), q);
        due("find no", Calls.ask(x, "find no"), -2);
        due("count(3)", x.count(3), 7);
        says("Promise 13: How many ACTS a PART of a query has. BAD");
        due("acts(0, 0)", x.acts(0, 0), 1);
        due("acts(0, 2)", x.acts(0, 2), 0);
        due("acts(0, 3)", x.acts(0, 3), -1);
        due("acts(12, 0)", x.acts(12, 0), -1);
        says("Promise 14: ACT i: its op (what 0), a (1; 0 where it has none). BAD is -2 here");
        x.clear();
        x.end(0);
        Calls.ask(x, "fold max $4");
        due("act(0, 1, 0, 0)", x.act(0, 1, 0, 0), 3);
        due("act(0, 1, 0, 1)", x.act(0, 1, 0, 1), 0);
        due("act(0, 1, 1, 0)", x.act(0, 1, 1, 0), 14);
        due("act(0, 1, 1, 1)", x.act(0, 1, 1, 1), 4);
        due("act(0, 1, 2, 0)", x.act(0, 1, 2, 0), -2);
        due("act(0, 1, 0, 2)", x.act(0, 1, 0, 2), -2);
        due("act(1, 1, 0, 0)", x.act(1, 1, 0, 0), -2);
        due("act(0, 3, 0, 0)", x.act(0, 3, 0, 0), -2);
    }

    private static void told(QueryClasses x, int... want) {
        for (int what = 0; what < want.length; what++) due("told(" + what + ")", x.told(what), want[what]);
    }

    private static void promises15To21() {
        says("Promise 16: Of the latest RUN: .. 5 the query (NONE before one). BAD is -2 here");
        QueryClasses x = made();
        told(x, 0, -1, -1, 0, 0, -1, -2);
        due("told(-1)", x.told(-1), -2);
        says("Promise 15: A RUN: how many HITS; -10 less the OBJECT at which it FAILED (there are no HITS then). BAD");
        runs(x, "find row<2", 2);
        told(x, 0, -1, -1, 12, 2, 0, -2);
        runs(x, "find 7/(1-row)>0", -11);
        hits(x);
        due("run(2)", x.run(2), -1);
        says("Promise 16: 0 its FAULT (0), 1 the PART, 2 the ACT at which that came (NONE both ..), 3 ACTS that were done, 4 HITS, 5 the query");
        told(x, 4, 0, 4, 8 + 4, 0, 1, -2);
        says("(.. PART 3, ACT 0 for what comes of a fold itself)");
        x.objects(9);
        runs(x, "fold count by row", -18);
        told(x, 6, 3, 0, 9, 0, 2, -2);
        x.objects(3);
        says("Promise 17: The OBJECT of a HIT; of GROUPS how many OBJECTS. BAD");
        runs(x, "find row>0", 2);
        hits(x, 1, 2);
        due("hit(-1)", x.hit(-1), -1);
        says("Promise 18: The bits of the SCORE of a HIT; the KEY of a GROUP. LOST");
        runs(x, "find row>0 order $6 down", 2);
        due("score(0)", x.score(0), Calls.bits(2.5));
        due("score(2)", x.score(2), LOST);
        due("score(-1)", x.score(-1), LOST);
        says("Promise 19: .. LOST: no such (or HITS are no GROUPS)");
        due("value(0)", x.value(0), LOST);
        says("Promise 19: The VALUE of a GROUP: J, I as they are, of F, D bits");
        runs(x, "fold min -$6 by 6-row", 3);
        due("score(2)", x.score(2), 4);
        due("value(2)", x.value(2), Calls.bits(-2.5f));
        due("value(3)", x.value(3), LOST);
        runs(x, "fold min -$7", 1);
        due("value(0)", x.value(0), Calls.bits(-2.25));
        runs(x, "fold min -$5", 1);
        due("value(0)", x.value(0), -52);
        runs(x, "fold min -$4", 1);
        due("value(0)", x.value(0), -42);
        says("Promise 20: How many: 0 OBJECTS, 1 COLUMNS that are not MISSING, 2 queries, 3 bytes on THE TAPE. BAD");
        Calls.lay(x, "find");
        due("count(0)", x.count(0), 3);
        due("count(1)", x.count(1), 9);
        due("count(2)", x.count(2), 9);
        due("count(3)", x.count(3), 4);
        due("count(4)", x.count(4), -1);
        due("count(-1)", x.count(-1), -1);
        says("Promise 21: All queries go, the latest RUN too: how many there were");
        due("clear()", x.clear(), 9);
        due("count(2)", x.count(2), 0);
        told(x, 0, -1, -1, 0, 0, -1, -2);
        hits(x);
        due("value(0)", x.value(0), LOST);
        due("run(0)", x.run(0), -1);
        due("clear()", x.clear(), 0);
    }
}
