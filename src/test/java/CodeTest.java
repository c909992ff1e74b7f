/** Terms, 3: the ACTS that texts are made into. */
public final class CodeTest {
    private static final Calls calls = new Calls();

    public static void main(String[] args) {
        parts();
        lanes();
        signs();
        jumps();
        functions();
        casts();
        clauses();
        calls.done();
    }

    private static QueryClasses made() {
        QueryClasses x = new QueryClasses();
        for (int lane = 0; lane < 8; lane++) x.column(lane, lane, 1);
        return x;
    }

    private static void due(String text, String where, String sum, String key) {
        QueryClasses x = made();
        calls.due(text, Calls.ask(x, text), 0);
        calls.due(text + ": part 0", Calls.code(x, 0, 0), where);
        calls.due(text + ": part 1", Calls.code(x, 0, 1), sum);
        calls.due(text + ": part 2", Calls.code(x, 0, 2), key);
    }

    /** min keeps the KIND, so nothing stands behind the sum. */
    private static void sum(String text, String code) {
        due("fold min " + text, "", code, "");
    }

    private static void test(String text, String code) {
        due("find " + text, code, "", "");
    }

    private static void parts() {
        sum("7", "1:7");
        sum("0", "1");
        sum("2147483647", "1:2147483647");
        sum("row", "3");
        sum("((row))", "3");
        test("yes", "1:1");
        test("no", "1");
        sum("1.5+2.5", "2 2:1 104");
        sum("$4[row+1]", "3 1:1 101 14:4");
        sum("$4[$1[2]]", "1:2 11:1 14:4");
        sum("-7", "1:7 1201");
        sum("--7", "1:7 1201 1201");
        due("fold sum 1.5 where 2.5<$7 by int(3.5)", "2:1 3 17:7 1404 1502", "2", "2:2 1641");
    }

    private static void lanes() {
        String[] codes = {"3 10", "3 11:1", "3 12:2", "3 13:3", "3 14:4", "3 15:5", "3 16:6", "3 17:7"};
        test("$0", codes[0]);
        for (int lane = 1; lane < 8; lane++) sum("$" + lane, codes[lane]);
        String[] kinds = {"", "", "", "", "", "1612", "1613", "1614"};
        for (int lane = 5; lane < 8; lane++) {
            sum("$1+$" + lane, "3 11:1 " + kinds[lane] + " " + codes[lane] + " 10" + (lane - 3));
            sum("$" + lane + "+$1", codes[lane] + " 3 11:1 " + kinds[lane] + " 10" + (lane - 3));
        }
        sum("$5*$6", "3 15:5 1623 3 16:6 303");
        sum("$5*$7", "3 15:5 1624 3 17:7 304");
        sum("$6-$7", "3 16:6 1634 3 17:7 204");
        sum("$7-$6", "3 17:7 3 16:6 1634 204");
    }

    private static void signs() {
        sum("1+2*3-4", "1:1 1:2 1:3 301 101 1:4 201");
        sum("1-2-3", "1:1 1:2 201 1:3 201");
        sum("1-(2-3)", "1:1 1:2 1:3 201 201");
        sum("6/4%3", "1:6 1:4 401 1:3 501");
        sum("1|2&3^4", "1:1 1:2 701 1:3 601 1:4 801");
        sum("1|2<<3+4", "1:1 1:2 1:3 1:4 101 901 701");
        sum("1<<2>>3>>>4", "1:1 1:2 901 1:3 1001 1:4 1101");
        sum("$5<<1", "3 15:5 1:1 902");
        sum("1>>$5", "1:1 3 15:5 1621 1001");
        sum("$5>>>$5", "3 15:5 3 15:5 1621 1102");
        sum("1|$5", "1:1 1612 3 15:5 702");
        sum("~1", "1:1 1301");
        sum("~$5", "3 15:5 1302");
        sum("-$5", "3 15:5 1202");
        sum("-$6", "3 16:6 1203");
        sum("-1.5", "2 1204");
        sum("-1*2", "1:1 1201 1:2 301");
        sum("-$4[0]", "1 14:4 1201");
        test("1=2", "1:1 1:2 1401 1500");
        test("1!=$5", "1:1 1612 3 15:5 1402 1501");
        test("$6<1", "3 16:6 1:1 1613 1403 1502");
        test("1.0>1", "2 1:1 1614 1404 1503");
        test("1<=2", "1:1 1:2 1401 1504");
        test("1>=2", "1:1 1:2 1401 1505");
        test("$0=yes", "3 10 1:1 1401 1500");
        test("$0!=$0", "3 10 3 10 1401 1501");
        test("$0&yes|no^yes", "3 10 1:1 601 1 701 1:1 801");
        test("1&2=3|4", "1:1 1:2 601 1:3 1:4 701 1401 1500");
    }

    private static void jumps() {
        test("not yes", "1:1 1810");
        test("not not yes", "1:1 1810 1810");
        test("not 1=2", "1:1 1:2 1401 1500 1810");
        test("yes and no", "1:1 1800:4 1 1802:5 1");
        test("yes or no", "1:1 1801:4 1 1802:5 1:1");
        test("yes or no and yes", "1:1 1801:8 1 1800:6 1:1 1802:7 1 1802:9 1:1");
        test("yes and no or yes", "1:1 1800:4 1 1802:5 1 1801:8 1:1 1802:9 1:1");
        test("yes or no or yes", "1:1 1801:4 1 1802:5 1:1 1801:8 1:1 1802:9 1:1");
        test("not yes and not no", "1:1 1810 1800:6 1 1810 1802:7 1");
        sum("yes ? 1 : 2", "1:1 1800:4 1:1 1802:5 1:2");
        sum("yes ? 1 : 2.5", "1:1 1800:5 1:1 1614 1802:6 2");
        sum("yes ? 2.5 : 1", "1:1 1800:4 2 1802:6 1:1 1614");
        sum("yes ? 1 : no ? 2 : 3.5", "1:1 1800:5 1:1 1614 1802:11 1 1800:10 1:2 1614 1802:11 2");
        sum("yes ? no ? 1 : 2 : 3.5", "1:1 1800:9 1 1800:6 1:1 1802:7 1:2 1614 1802:10 2");
        sum("(yes ? 1 : 2) + (no ? 3.5 : 4)", "1:1 1800:4 1:1 1802:5 1:2 1614 1 1800:10 2 1802:12 1:4 1614 104");
        sum("1 + (no ? 3 : 4.5)", "1:1 1614 1 1800:7 1:3 1614 1802:8 2 104");
        sum("1 + (no and yes ? 3 : 4)*2.0",
            "1:1 1614 1 1800:6 1:1 1802:7 1 1800:10 1:3 1802:11 1:4 1614 2 304 104");
        test("(yes ? yes : no) = no", "1:1 1800:4 1:1 1802:5 1 1 1401 1500");
        test("1 < 2.0 and (1 = 2 or yes)", "1:1 1614 2 1404 1502 1800:15 1:1 1:2 1401 1500 1801:13 1:1 1802:14 1:1 1802:16 1");
    }

    private static void functions() {
        sum("abs(1)", "1:1 1701");
        sum("abs($5)", "3 15:5 1702");
        sum("abs($6)", "3 16:6 1703");
        sum("abs($7)", "3 17:7 1704");
        sum("floor(1)", "1:1 1614 1714");
        sum("ceil($5)", "3 15:5 1624 1724");
        sum("rint($6)", "3 16:6 1634 1734");
        sum("floor(1.5)", "2 1714");
        sum("sign(1)", "1:1 1614 1744");
        sum("sign($5)", "3 15:5 1624 1744");
        sum("sign($6)", "3 16:6 1743");
        sum("sign($7)", "3 17:7 1744");
        sum("min(1,2)", "1:1 1:2 1751");
        sum("max(1,2)", "1:1 1:2 1761");
        sum("min(1,$5)", "1:1 1612 3 15:5 1752");
        sum("max($6,1)", "3 16:6 1:1 1613 1763");
        sum("max(1+1,2.5)", "1:1 1:1 101 1614 2 1764");
        sum("min(1.5,min(1,2))", "2 1:1 1:2 1751 1614 1754");
    }

    private static void casts() {
        String[] names = {"byte", "short", "char", "int", "long", "float", "double"};
        String[] from = {"3 14:4", "3 15:5", "3 16:6", "3 17:7"};
        int[] to = {1, 1, 1, 1, 2, 3, 4};
        for (int n = 0; n < 7; n++) {
            for (int kind = 1; kind <= 4; kind++) {
                String code = from[kind - 1];
                if (kind != to[n]) code += " " + (1600 + 10 * kind + to[n]);
                if (n < 3) code += " " + (1651 + n);
                sum(names[n] + "($" + (kind + 3) + ")", code);
                due("set $" + (n + 1) + " := $" + (kind + 3), "", "3 " + code + " " + (21 + n) + ":" + (n + 1), "");
            }
        }
        sum("byte($1)", "3 11:1 1651");
        sum("char(short(1))", "1:1 1652 1653");
        due("set $0 := not $0", "", "3 3 10 1810 20", "");
    }

    private static void clauses() {
        due("find yes order 1", "1:1", "1:1 1614", "");
        due("find yes order $5 down", "1:1", "3 15:5 1624", "");
        due("find yes order $6 first 3", "1:1", "3 16:6 1634", "");
        due("find yes order $7", "1:1", "3 17:7", "");
        due("fold count", "", "", "");
        due("fold count by $5", "", "", "3 15:5");
        due("fold count by $3", "", "", "3 13:3");
        due("fold sum $3", "", "3 13:3 1612", "");
        due("fold sum $5", "", "3 15:5", "");
        due("fold sum $6", "", "3 16:6 1634", "");
        due("fold sum $7", "", "3 17:7", "");
        due("fold mean 1", "", "1:1 1614", "");
        due("fold mean $5", "", "3 15:5 1624", "");
        due("fold mean $6", "", "3 16:6 1634", "");
        due("fold mean $7", "", "3 17:7", "");
        due("fold max $5", "", "3 15:5", "");
        due("fold max $6", "", "3 16:6", "");
        due("fold sum yes ? 1 : 2", "", "1:1 1800:4 1:1 1802:5 1:2 1612", "");
        due("set $1 := yes ? 1 : 2 where no", "1", "3 1:1 1800:5 1:1 1802:6 1:2 1651 21:1", "");
    }
}
