/**
 * The boundary cases of promises 11 to 14 and of Terms, 2: what TOKENS may be at most, the six
 * FAULTS with their places, which is met first, how many may be open, and how large code may be.
 */
public final class EdgesOfTextsTest {
    private static final Calls calls = new Calls();
    private static final int MIN = Integer.MIN_VALUE, MAX = Integer.MAX_VALUE;

    public static void main(String[] args) {
        emptyTexts();
        textsOfFourHundredBytes();
        bytesBehindTheEndAreNotRead();
        blanks();
        wordsAreOfSmallLetters();
        numbersAtMost();
        realsOfNineFigures();
        realsAreDividedOnce();
        columnsAreOneFigure();
        signsAsLongAsMayBe();
        twelveOfASort();
        twelveOfAllSorts();
        openToTheirEnds();
        tooDeepGoesFirst();
        kindsThatDoNotFit();
        missingColumns();
        theFirstMet();
        twoHundredActs();
        pilesOfTwentyFour();
        pilesAboveEachAct();
        tooLongIsLast();
        twelveQueries();
        emptyTapeAfterQuery();
        faultOfTheLatestText();
        actsBeyond();
        calls.done();
    }

    private static void due(String call, long got, long want) {
        calls.due(call, got, want);
    }

    private static String many(String what, int n) {
        return what.repeat(n);
    }

    /** $0 .. $7 are of LANES 0 .. 7; $8, $9 are MISSING. */
    private static QueryClasses made() {
        QueryClasses x = new QueryClasses();
        x.objects(1);
        for (int lane = 0; lane < 8; lane++) x.column(lane, lane, 1);
        return x;
    }

    private static void fits(String text) {
        QueryClasses x = made();
        due(text, Calls.ask(x, text), 0);
        due(text + ": no fault", x.fault(), 0);
        due(text + ": a query", x.count(2), 1);
    }

    private static void fails(String text, int fault, int place) {
        QueryClasses x = made();
        due(text + ": its place", Calls.ask(x, text), -10 - place);
        due(text + ": its fault", x.fault(), fault);
        due(text + ": no query", x.count(2), 0);
        due(text + ": the tape is empty", x.count(3), 0);
    }

    /** What fold max answers for the one OBJECT. */
    private static void answers(String sum, long want) {
        QueryClasses x = made();
        due(sum, x.run(Calls.ask(x, "fold max " + sum)), 1);
        due(sum, x.value(0), want);
    }

    private static void emptyTexts() {
        fails("", 2, 0);
        fails(" ", 2, 1);
        fails("\n", 2, 1);
        fails(many(" ", 400), 2, 400);
        fails("f", 2, 0);
        fails(" find", 2, 5);
    }

    private static void textsOfFourHundredBytes() {
        fits("find yes" + many(" ", 392));
        fits(many("\n", 392) + "find yes");
        fits("find 1=" + many("0", 392) + "1");
        fails("find yes" + many(" ", 391) + "@", 1, 399);
        fails("find yes" + many(" ", 391) + "1", 2, 399);
        fails("find yes" + many(" ", 390) + "or", 2, 400);
        fails("find not" + many(" ", 392), 2, 400);
        fails("find 1" + many(" ", 394), 4, 400);
        fails("find 1=" + many(" ", 391) + "$8", 5, 398);
        fails("find 1=" + many(" ", 392) + "$", 1, 399);
        fails("find 1=" + many(" ", 390) + "1.5", 1, 398, "find 1=" + many(" ", 390) + "1.");
        fails("fold sum 1" + many("+1", 195), 6, 400);
        fails("find " + many("a", 395), 2, 5);
        fails("find 1=" + many("9", 393), 1, 7);
        fails("find 1=0." + many("0", 391), 1, 7);
    }

    /** A text that is laid longer, then cut to what is told. */
    private static void fails(String longer, int fault, int place, String text) {
        QueryClasses x = made();
        Calls.lay(x, longer);
        x.end(text.length());
        due(text + " cut: its place", x.query(), -10 - place);
        due(text + " cut: its fault", x.fault(), fault);
    }

    private static void fitsCut(String longer, int length, String code) {
        QueryClasses x = made();
        Calls.lay(x, longer);
        x.end(length);
        due(longer + " cut", x.query(), 0);
        calls.due(longer + " cut", Calls.code(x, 0, 0), code);
    }

    private static void bytesBehindTheEndAreNotRead() {
        fails("find $4=1", 1, 5, "find $");
        fails("find 1=1.5", 1, 8, "find 1=1.");
        fails("find 1!=1", 1, 6, "find 1!");
        fails("find yes", 2, 5, "find ye");
        fails("find yes", 2, 0, "fin");
        fails("set $4 := 1", 2, 7, "set $4 :");
        fails("find yes or no", 2, 11, "find yes or");
        fitsCut("find yes or no", 8, "1:1");
        fitsCut("find 1=12345", 8, "1:1 1:1 1401 1500");
        fitsCut("find 1=2147483648", 16, "1:1 1:214748364 1401 1500");
        fitsCut("find 1=1.2345678901", 10, "1:1 1614 2 1404 1500");
        fitsCut("find 1>1 @", 9, "1:1 1:1 1401 1503");
        QueryClasses x = made();
        Calls.lay(x, "find yes or no");
        x.query();
        Calls.lay(x, "find no");
        due("of the text before nothing is read", x.query(), 1);
        calls.due("of the text before nothing is read", Calls.code(x, 1, 0), "1");
    }

    private static void blanks() {
        for (int b = 0; b < 256; b++) {
            boolean blank = b == 32 || b == 10;
            String text = "find yes" + (char) b + " ";
            boolean joins = "+-*/%&|^=<>".indexOf(b) >= 0;
            boolean token = "~()[],?:".indexOf(b) >= 0 || b >= '0' && b <= '9';
            boolean letter = b >= 'a' && b <= 'z';
            if (blank) fits(text);
            else if (joins) fails(text, 2, 10);
            else if (token) fails(text, 2, 8);
            else if (letter) fails(text, 2, 5);
            else fails(text, 1, 8);
        }
        fits("find\nnot\n\nyes\n");
        fits("find(yes)or(no)");
        fits("find not(yes)and not(no)");
        fails("findyes", 2, 0);
        fails("find notyes", 2, 5);
        fits("find 1=1or yes");
        fits("find $4 [ 0 ] = abs ( 1 ) ");
    }

    private static void wordsAreOfSmallLetters() {
        fails("Find yes", 1, 0);
        fails("find yEs", 2, 5);
        fails("find `", 1, 5);
        fails("find {", 1, 5);
        fails("find z", 2, 5);
        fails("find a", 2, 5);
        fails("find yess", 2, 5);
        fails("find ye", 2, 5);
        fails("find doubles(1)=1", 2, 5);
        fails("find doubl(1)=1", 2, 5);
        fits("find double(1)=1");
        fails("finds yes", 2, 0);
    }

    private static void numbersAtMost() {
        answers("0", 0);
        answers("2147483646", 2147483646);
        answers("2147483647", 2147483647);
        answers("00000000002147483647", 2147483647);
        answers("-2147483647-1", MIN);
        fails("fold max 2147483648", 1, 9);
        fails("fold max 2147483650", 1, 9);
        fails("fold max 3000000000", 1, 9);
        fails("fold max 10000000000", 1, 9);
        fails("fold max 4294967296", 1, 9);
        fails("fold max 4294967297", 1, 9);
        fails("fold max 18446744073709551616", 1, 9);
        fails("fold max 18446744073709551617", 1, 9);
        fails("fold max -2147483648", 1, 10);
        fits("find yes first 2147483647");
        fails("find yes first 2147483648", 1, 15);
        fails("fold max 1+ 2147483648", 1, 12);
    }

    private static void realsOfNineFigures() {
        fits("fold max 1234567.8");
        fits("fold max 12345678.9");
        fails("fold max 123456789.0", 1, 9);
        fits("fold max 0.1234567");
        fits("fold max 0.12345678");
        fails("fold max 0.123456789", 1, 9);
        fits("fold max 1234.56789");
        fails("fold max 1234.567890", 1, 9);
        fails("fold max 00000000.00", 1, 9);
        fits("fold max 0000000.00");
        fails("fold max 4294967296.5", 1, 9);
        fails("fold max 1.", 1, 10);
        fails("fold max 1.+1", 1, 10);
        fails("fold max .1", 1, 9);
        fails("fold max 1..1", 1, 10);
        fails("fold max 1.1.1", 1, 12);
        fails("find yes first 1.0", 2, 15);
        fails("fold max $4[0.0]", 4, 11);
    }

    private static void realsAreDividedOnce() {
        answers("0.0", 0);
        answers("99999999.9", Calls.bits(999999999 / 10.0));
        answers("0.00000001", Calls.bits(1 / 100000000.0));
        answers("9.99999999", Calls.bits(999999999 / 100000000.0));
        answers("0.3", Calls.bits(3 / 10.0));
        answers("00000001.5", Calls.bits(1.5));
        answers("1.1+2.2", Calls.bits(11 / 10.0 + 22 / 10.0));
    }

    private static void columnsAreOneFigure() {
        QueryClasses x = new QueryClasses();
        x.column(0, 0, 1);
        x.column(9, 0, 1);
        due("$0", Calls.ask(x, "find $0"), 0);
        due("$9", Calls.ask(x, "find $9"), 1);
        due("$9: which", x.act(1, 0, 1, 1), 9);
        fails("find $/", 1, 5);
        fails("find $:", 1, 5);
        fails("find $", 1, 5);
        fails("find $$0", 1, 5);
        fails("find $-1", 1, 5);
        fails("find $ 1", 1, 5);
        fails("find $row", 1, 5);
        fails("find $01", 2, 7);
        fails("find $10", 4, 7);
        fails("find $4.5", 1, 7);
    }

    private static void signsAsLongAsMayBe() {
        fits("fold max 1>>>1");
        fails("fold max 1>>>>1", 2, 13);
        fails("fold max 1> >>1", 2, 12);
        fails("fold max 1>> >1", 2, 13);
        fails("find 1>>=1", 2, 8);
        fits("find 1>=1");
        fails("find 1> =1", 2, 8);
        fails("find 1<>1", 2, 7);
        fails("find 1<<=1", 2, 8);
        fails("find 1!1", 1, 6);
        fails("find 1! =1", 1, 6);
        fails("find !yes", 1, 5);
        fails("find 1:=1", 4, 6);
        fails("find yes:=1", 2, 8);
        fails("fold max yes?1:=1", 2, 14);
        fits("fold max yes?1: -1");
        fails("set $4:1", 2, 6);
        fails("set $4=1", 2, 6);
        fits("set $4:=-1");
    }

    /** Eleven, twelve and thirteen of one sort of what may be open, one within the other. */
    private static void sort(String head, String opening, String inner, String closing, String tail, int at) {
        for (int n = 11; n <= 14; n++) {
            String text = head + many(opening, n) + inner + many(closing, n) + tail;
            if (n <= 12) fits(text);
            else fails(text, 3, head.length() + 12 * opening.length() + at);
        }
    }

    private static void twelveOfASort() {
        sort("find ", "(", "yes", ")", "", 0);
        sort("find yes order ", "(", "1", ")", "", 0);
        sort("fold count by ", "(", "1", ")", "", 0);
        sort("set $4 := ", "(", "1", ")", " where yes", 0);
        sort("fold max ", "$4[", "0", "]", "", 2);
        sort("fold max ", "-", "1", "", "", 0);
        sort("fold max ", "~", "1", "", "", 0);
        sort("fold max ", "- ", "1", "", "", 0);
        sort("find ", "not ", "yes", "", "", 0);
        sort("fold count where ", "not ", "yes", "", "", 0);
        sort("fold max ", "yes?", "1", ":2", "", 3);
        sort("fold max ", "yes?1:", "2", "", "", 3);
        sort("fold max ", "abs(", "1", ")", "", 3);
        sort("fold max ", "min(1,", "1", ")", "", 3);
        sort("fold max ", "max(", "1", ",1)", "", 3);
        sort("fold max ", "double(", "1", ")", "", 6);
    }

    private static void twelveOfAllSorts() {
        String two = "-~", six = "($4[abs(yes?";
        fits("fold max " + many(two, 6) + "1");
        fails("fold max " + many(two, 6) + "-1", 3, 21);
        fails("fold max " + many(two, 6) + "~1", 3, 21);
        fails("fold max " + many(two, 6) + "(1)", 3, 21);
        fails("fold max " + many(two, 6) + "abs(1)", 3, 24);
        fails("fold max " + many(two, 6) + "$4[0]", 3, 23);
        fits("fold max " + many(six, 3) + "1" + many(":1)])", 3));
        fails("fold max " + many(six, 3) + "-1" + many(":1)])", 3), 3, 9 + 36);
        fails("fold max " + many(six, 3) + "(1)" + many(":1)])", 3), 3, 9 + 36);
        fails("fold max " + many(six, 3) + "yes?1:1" + many(":1)])", 3), 3, 9 + 36 + 3);
        fails("fold max " + many(six, 3) + "1:not yes?1:1)])" + many(":1)])", 2), 3, 9 + 36 + 2);
    }

    /** What has come to its end is open no more. */
    private static void openToTheirEnds() {
        String twelve = many("(", 12) + "1" + many(")", 12), eleven = many("(", 11) + "1" + many(")", 11);
        String[] ended = {"(1)+", "-1+", "~1+", "$4[0]+", "abs(1)+", "min(1,1)+", "(yes?1:1)+", "(not yes?1:1)+"};
        for (String e : ended) {
            fits("fold max " + e + twelve);
            fails("fold max " + e + "(" + twelve + ")", 3, 9 + e.length() + 12);
        }
        String[] open = {"-", "~", "abs(", "min(1,", "$4[", "(", "yes?", "yes?1:"};
        String[] closed = {"", "", ")", ")", "]", ")", ":1", ""};
        for (int i = 0; i < open.length; i++) {
            fits("fold max " + open[i] + eleven + closed[i]);
            fails("fold max " + open[i] + twelve + closed[i], 3, 9 + open[i].length() + 11);
        }
        fits("fold max yes?" + eleven + ":" + eleven);
        fits("fold max 1=" + twelve + "?1:1");
        fits("find not no and 1=" + twelve);
        fits("find not 1=" + eleven);
        fails("find not 1=" + twelve, 3, 11 + 11);
        fails("find not not no or not 1=" + twelve, 3, 25 + 11);
        fits("fold max -1-" + twelve);
        fits("fold max -1*" + twelve);
        fits("find 1=" + twelve + " order " + twelve);
        fits("fold max " + twelve + " where 1=" + twelve + " by " + twelve);
        fits("fold max " + many("-1-", 60) + "1");
        fits("find " + many("(yes)or ", 40) + "no");
    }

    private static void tooDeepGoesFirst() {
        String twelve = many("(", 12);
        fails("fold max " + twelve + "1?1:1", 3, 9 + 13);
        fails("fold max " + twelve + "(", 3, 9 + 12);
        fails("fold max " + twelve + "(@", 3, 9 + 12);
        fails("fold max " + twelve + "-@", 3, 9 + 12);
        fails("fold max " + twelve + "$4[@", 3, 9 + 14);
        fails("fold max " + twelve + "$8[", 5, 9 + 12);
        fails("fold max " + twelve + "@(", 1, 9 + 12);
        fails("fold max " + twelve + "abs 1", 2, 9 + 16);
        fails("fold max " + twelve + "yes+1?1:1", 4, 9 + 15);
        fails("fold max " + many("(", 11) + "1?1:1", 4, 9 + 12);
        fails("find " + many("(", 11) + "1?@", 4, 5 + 12);
        fails("find yes ? yes : no", 2, 9);
        fails("find 1 ? yes : no", 4, 7);
    }

    private static void kindsThatDoNotFit() {
        fails("fold max 1+yes", 4, 10);
        fails("fold max 1 + yes", 4, 11);
        fails("fold max 1 + 2 + yes", 4, 15);
        fails("fold max 1 + (2 * yes)", 4, 16);
        fails("fold max 1=yes?1:1", 4, 10);
        fits("fold max no=yes?1:1");
        fails("fold max no<yes?1:1", 4, 11);
        fails("fold max 1.0&1", 4, 12);
        fails("fold max 1<<1.0", 4, 10);
        fails("fold max $6>>>1", 4, 11);
        fits("fold max $5<<$5");
        fails("find 1 or yes", 4, 7);
        fails("find yes and 1", 4, 9);
        fails("find not 1", 4, 5);
        fails("find yes or not 1", 4, 12);
        fails("fold max 1 ? 1 : 1", 4, 11);
        fails("fold max yes ? 1 : no", 4, 17);
        fits("fold count where (yes ? yes : no)");
        fails("fold max -yes", 4, 9);
        fails("fold max ~1.0", 4, 9);
        fails("fold max ~$6", 4, 9);
        fits("fold max ~$5");
        fails("fold max $4[$5]", 4, 11);
        fails("fold max $4 [yes]", 4, 12);
        fails("fold max abs (yes)", 4, 13);
        fails("fold max min(1,yes)", 4, 12);
        fails("fold max max(yes,no)", 4, 12);
        fails("find 1", 4, 6);
        fails("find 1 ", 4, 7);
        fails("find 1 order 1", 4, 7);
        fails("fold count where 1", 4, 18);
        fails("find yes order no", 4, 17);
        fails("find yes order no down", 4, 18);
        fails("fold sum yes", 4, 12);
        fails("fold mean yes by 1", 4, 14);
        fails("fold count by 1.0", 4, 17);
        fails("fold count by $6", 4, 16);
        fails("fold count by yes", 4, 17);
        fits("fold count by $5");
        fails("set $0 := 1", 4, 7);
        fails("set $1 := yes", 4, 7);
        fails("set $7:=yes", 4, 6);
        fits("set $1 := 1.0");
        fits("set $0 := 1=1");
    }

    private static void missingColumns() {
        for (int c = 0; c < 10; c++) {
            QueryClasses x = new QueryClasses();
            for (int d = 0; d < 10; d++) if (d != c) x.column(d, 0, 0);
            due("the one that is MISSING", Calls.ask(x, "find yes or $" + c), -22);
            due("the one that is MISSING", x.fault(), 5);
            due("another one", Calls.ask(x, "find yes or $" + (c + 1) % 10), 0);
            due("set of it", Calls.ask(x, "set $" + c + " := yes"), -14);
            due("set of it", x.fault(), 5);
            x.column(c, 0, 0);
            due("it is there now", Calls.ask(x, "find yes or $" + c), 1);
        }
        fails("find $8[", 5, 5);
        fails("find 1+$8", 5, 7);
        fails("set $9", 5, 4);
        fails("set $9 := @", 5, 4);
        fails("find yes $8", 2, 9);
        fails("find yes first $8", 2, 15);
    }

    /** Two FAULTS in one text: the one that is met first as it is read. */
    private static void theFirstMet() {
        fails("@ $8", 1, 0);
        fails("find @ )", 1, 5);
        fails("find ) @", 2, 5);
        fails("find $8 @", 5, 5);
        fails("find $8 )", 5, 5);
        fails("find 1+yes@", 1, 10);
        fails("find 1+yes @", 1, 11);
        fails("find 1+yes )", 4, 6);
        fails("find 1+yes $8", 4, 6);
        fails("find 1+yes+$8", 4, 6);
        fails("find 1+yes*$8", 5, 11);
        fails("find 1+yes*@", 1, 11);
        fails("find 1+yes*)", 2, 11);
        fails("find 1+yes", 4, 6);
        fails("find 1+", 2, 7);
        fails("find 1 @", 1, 7);
        fails("find 1 yes", 4, 7);
        fails("find yes yes", 2, 9);
        fails("find yes order yes @", 1, 19);
        fails("find yes order yes yes", 4, 19);
        fails("set $4 := yes @", 1, 14);
        fails("set $4 := yes )", 4, 7);
        fails("set $4 := yes where $8", 4, 7);
        fails("set $4 @ yes", 1, 7);
        fails("set $4 yes", 2, 7);
        fails("fold max -yes @", 1, 14);
        fails("fold max -yes )", 4, 9);
        fails("find not 1 @", 1, 11);
        fails("find not 1 )", 4, 5);
        fails("fold max 1 ? @", 4, 11);
        fails("fold max yes ? @", 1, 15);
        fails("fold max yes ? 1 : yes @", 1, 23);
        fails("fold max yes ? 1 : yes )", 4, 17);
        fails("fold max yes ? 1 : $8", 5, 19);
        fails("find yes first 2147483648 @", 1, 15);
    }

    /** A sum of so many ACTS; 1 is added until there are enough. */
    private static String sumOf(int acts) {
        return (acts % 2 == 0 ? "-1" : "1") + many("+1", (acts - 1) / 2);
    }

    private static void part(String head, String tail, int part, int others) {
        for (int acts = 198; acts <= 203; acts++) {
            String text = head + sumOf(acts - others) + tail;
            if (acts > 200) {
                fails(text, 6, text.length());
                continue;
            }
            QueryClasses x = made();
            due(text, Calls.ask(x, text), 0);
            due(text + ": ACTS", x.acts(0, part), acts);
            due(text + ": the last one", x.act(0, part, acts - 1, 0) > 0 ? 1 : 0, 1);
            due(text + ": none behind it", x.act(0, part, acts, 0), -2);
            due(text + ": none behind it", x.act(0, part, acts, 1), -2);
            due(text + ": a RUN", x.run(0) >= 0 ? 1 : 0, 1);
            due(text + ": ACTS done", x.told(3) >= acts - (text.indexOf('?') < 0 ? 0 : 1) ? 1 : 0, 1);
        }
    }

    private static void twoHundredActs() {
        part("find 0!=", "", 0, 3);
        part("fold count where 0!=", "", 0, 3);
        part("find yes order ", "", 1, 1);
        part("find yes order ", " down first 3", 1, 1);
        part("fold max ", "", 1, 0);
        part("fold sum ", "", 1, 1);
        part("fold mean ", "", 1, 1);
        part("fold count by ", "", 2, 0);
        part("set $4 := ", "", 1, 2);
        part("set $5 := ", "", 1, 3);
        part("set $1 := ", "", 1, 3);
        part("set $4 := ", " where yes", 1, 2);
        // What makes the left side of another KIND is an ACT more, and stands ahead of what is counted last.
        part("fold max (", ")+long(1)", 1, 4);
        part("fold max 1.0+(", ")", 1, 3);
        part("fold max yes?", ":2.5", 1, 5);
        // Each PART has its own ACTS.
        part("fold max ", " where 0!=" + sumOf(80) + " by 1", 1, 0);
        QueryClasses x = made();
        due("all PARTS", Calls.ask(x, "fold max " + sumOf(120) + " where 0!=" + sumOf(100) + " by " + sumOf(120)), 0);
        due("their ACTS", x.acts(0, 0) + x.acts(0, 1) + x.acts(0, 2), 103 + 120 + 120);
    }

    /** Lays so many values one above the other: four lie below what is within each bracket. */
    private static String pileOf(int height) {
        String[] rest = {"1", "5-3", "5-2*2", "3<<5-2*2"};
        int brackets = (height - 1) / 4, left = (height - 1) % 4;
        return many("7^1<<9-2*(", brackets) + rest[left] + many(")", brackets);
    }

    private static void pile(String head, String tail, int part, int others) {
        for (int height = 21; height <= 27; height++) {
            String text = head + pileOf(height - others) + tail;
            if (height > 24) {
                fails(text, 6, text.length());
                continue;
            }
            QueryClasses x = made();
            due(text, Calls.ask(x, text), 0);
            due(text + ": its PILE", highest(x, part), height);
            due(text + ": a RUN", x.run(0) >= 0 ? 1 : 0, 1);
        }
    }

    /** Of code without jumps. */
    private static int highest(QueryClasses x, int part) {
        int height = 0, most = 0;
        for (int i = 0; i < x.acts(0, part); i++) {
            int op = x.act(0, part, i, 0);
            boolean lays = op <= 3, keeps = op > 10 && op < 20 || op >= 1500 && op < 1700;
            height += lays ? 1 : keeps ? 0 : op >= 20 && op < 30 ? -2 : -1;
            most = Math.max(most, height);
        }
        return most;
    }

    private static void pilesOfTwentyFour() {
        pile("fold max ", "", 1, 0);
        pile("fold count by ", "", 2, 0);
        pile("find 1=", "", 0, 1);
        pile("find yes order ", "", 1, 0);
        pile("set $4 := ", "", 1, 1);
        pile("fold count where 0!=", " by row", 0, 1);
        pile("fold max $4[0]+(", ")", 1, 1);
        pile("fold max min(1,", ")", 1, 1);
        // What is on top while a truth is asked is taken by the jump, so that both ways begin as low.
        String below = many("1&1<<1+1*(", 5), end = many(")", 5);
        fits("fold max " + below + "1&1<<1+(yes?1:1)" + end);
        fits("fold max " + below + "1&1<<1+(yes and no or yes?1:1)" + end);
        fails("fold max " + below + "1&1<<1+1*(yes?1:1)" + end, 6, 9 + 50 + 18 + 5);
        fits("fold max " + below + "1&1<<(yes?1+1:1)" + end);
        fails("fold max " + below + "1&1<<1+(yes?1+1:1)" + end, 6, 9 + 50 + 18 + 5);
        fails("fold max " + below + "1&1<<1+(yes?1:1+1)" + end, 6, 9 + 50 + 18 + 5);
        fails("fold max " + below + "1&1<<1+(1=1?1:1)" + end, 6, 9 + 50 + 16 + 5);
        // Values that are taken again don't pile up.
        fits("fold max 1" + many("+1", 99));
        fits("fold max " + many("max(1,", 12) + "1" + many(")", 12));
        answers(pileOf(24), value(24));
        answers(pileOf(23), value(23));
    }

    /** Each sum below is one value on the PILE, whatever it lays and takes until it is there. */
    private static void pilesAboveEachAct() {
        String[] sums = {"7", "row", "$4", "$4[0]", "$1", "$2", "$3", "-7", "~7", "abs(7)", "(7)", "(1+1)", "(1-1)", "(1*1)",
            "(1/1)", "(1%1)", "(1&1)", "(1|1)", "(1^1)", "(1<<1)", "(1>>1)", "(1>>>1)", "min(7,1)", "max(7,1)", "byte(7)",
            "short(7)", "char(7)", "int(1.5)", "int(long(7))", "int(float(7))", "int(double(7))", "int(-long(7))", "int(-1.5)",
            "int(floor(1.5))", "int(ceil(1.5))", "int(rint(1.5))", "int(sign(1.5))", "int(sign(float(1)))", "int($5+1)",
            "int($6*1)", "int($7/1.5)", "int($5%1)", "int($5>>1)", "int(~$5)", "int($5|1)", "int(abs($6))", "int(min($5,1))",
            "int(max($6,1))", "int(min(1.5,2.5))", "(1=1?1:1)", "(1<$5?1:1)", "(1.5>=$6?1:1)", "($0!=yes?1:1)", "(yes&no?1:1)",
            "(not yes?1:1)", "(yes and no?1:1)", "(yes or no?1:1)", "(yes?1:no?1:1)", "int(yes?1:1.5)"};
        for (String sum : sums) {
            String fits = sum + pileOf(24).substring(1), fails = sum + pileOf(25).substring(1);
            fits("fold max " + fits);
            fails("fold max " + fails, 6, 9 + fails.length());
            fits("fold count by " + fits);
            fails("find 0=" + fits, 6, 7 + fits.length());
        }
    }

    /** What pileOf is. */
    private static int value(int height) {
        int[] rest = {1, 5 - 3, 5 - 2 * 2, 3 << 5 - 2 * 2};
        int v = rest[(height - 1) % 4];
        for (int i = 0; i < (height - 1) / 4; i++) v = 7 ^ 1 << 9 - 2 * v;
        return v;
    }

    private static void tooLongIsLast() {
        String tooLong = sumOf(203), tooHigh = pileOf(26);
        for (String sum : new String[] {tooLong, tooHigh}) {
            int n = 9 + sum.length();
            fails("fold max " + sum + " ", 6, n + 1);
            fails("fold max " + sum + "@", 1, n);
            fails("fold max " + sum + "+", 2, n + 1);
            fails("fold max " + sum + ")", 2, n);
            fails("fold max " + sum + "+" + many("(", 13), 3, n + 13);
            fails("fold max " + sum + "=yes", 4, n);
            fails("fold max " + sum + "+$8", 5, n + 1);
            fails("fold max " + sum + " where 1", 4, n + 8);
            fails("fold max " + sum + " where yes by 1", 6, n + 15);
        }
    }

    private static void twelveQueries() {
        QueryClasses x = made();
        for (int q = 0; q < 11; q++) due("11 its number", Calls.ask(x, "find yes"), q);
        due("11 a wrong one takes no number", Calls.ask(x, "find"), -14);
        due("11 the twelfth", Calls.ask(x, "find no"), 11);
        due("20 twelve", x.count(2), 12);
        due("15 the last one", x.run(11), 0);
        due("15 there is no more", x.run(12), -1);
        Calls.lay(x, "find @ 1");
        due("11 FULL", x.query(), -2);
        due("11 THE TAPE stays", x.count(3), 8);
        due("12 it wasn't looked at", x.fault(), 0);
        due("11 FULL again", x.query(), -2);
        x.end(0);
        due("11 FULL of no text", x.query(), -2);
        Calls.lay(x, "find not yes");
        due("11 FULL of one that fits", x.query(), -2);
        due("21", x.clear(), 12);
        due("11 what stayed is read now", x.query(), 0);
        due("14 it is", x.act(0, 0, 1, 0), 1810);
    }

    private static void emptyTapeAfterQuery() {
        QueryClasses x = made();
        Calls.ask(x, "find yes");
        due("11 empty", x.count(3), 0);
        due("11 empty: no text", x.query(), -10);
        Calls.ask(x, "find yes @");
        due("11 empty after a FAULT", x.count(3), 0);
        due("11 empty: no text", x.query(), -10);
        due("12", x.fault(), 2);
        due("20 one", x.count(2), 1);
    }

    private static void faultOfTheLatestText() {
        QueryClasses x = made();
        due("12 before a text", x.fault(), 0);
        String[] texts = {"find @", "find", "find " + many("(", 13), "find 1", "find $9", "fold max " + sumOf(201), "find yes"};
        int[] faults = {1, 2, 3, 4, 5, 6, 0};
        for (int i = 0; i < texts.length; i++) {
            Calls.ask(x, texts[i]);
            due("12 of " + texts[i], x.fault(), faults[i]);
            due("12 asked again", x.fault(), faults[i]);
        }
        Calls.ask(x, "find $9");
        x.run(0);
        x.column(9, 0, 1);
        Calls.lay(x, "find yes");
        due("12 of the latest text yet", x.fault(), 5);
    }

    private static void actsBeyond() {
        QueryClasses x = made();
        Calls.ask(x, "fold max row where yes");
        due("13 where", x.acts(0, 0), 1);
        due("13 how", x.acts(0, 1), 1);
        due("13 no by", x.acts(0, 2), 0);
        for (int q : new int[] {-1, 1, 12, MIN, MAX}) {
            due("13 query " + q, x.acts(q, 0), -1);
            due("14 query " + q, x.act(q, 0, 0, 0), -2);
        }
        for (int part : new int[] {-1, 3, MIN, MAX}) {
            due("13 part " + part, x.acts(0, part), -1);
            due("14 part " + part, x.act(0, part, 0, 0), -2);
        }
        for (int i : new int[] {-1, 1, MIN, MAX}) due("14 act " + i, x.act(0, 0, i, 0), -2);
        for (int what : new int[] {-1, 2, MIN, MAX}) due("14 what " + what, x.act(0, 0, 0, what), -2);
        due("14 of no PART", x.act(0, 2, 0, 0), -2);
        due("14 op", x.act(0, 0, 0, 0), 1);
        due("14 a", x.act(0, 0, 0, 1), 1);
        due("14 0 where it has none", x.act(0, 1, 0, 1), 0);
    }
}
