/**
 * The boundary cases of promises 1 to 10, 20 and 21 and of what Terms, 1 says of them: at each
 * boundary, one below it and one beyond it. That refused calls change nothing is RefusedTest's.
 */
public final class EdgesOfCallsTest {
    private static final Calls calls = new Calls();
    private static final int MIN = Integer.MIN_VALUE, MAX = Integer.MAX_VALUE;
    private static final long LOST = Long.MIN_VALUE;

    public static void main(String[] args) {
        newObjectHasNothing();
        newObjectsAreApart();
        objectsFromNoneToSixteen();
        objectsBeyond();
        columnsFromNoneToSixteenCells();
        columnsBeyond();
        columnAgainIsANewRow();
        shareAtTheEnds();
        shareOfMissing();
        shareBeyond();
        dropTells();
        putAtTheEndsOfARow();
        putKeepsLowestBits();
        putRefusesNoNumber();
        putOfMissing();
        cellLost();
        aboutTheLeast();
        aboutBeyond();
        feedUpToFourHundred();
        feedHighestByteFirst();
        feedBehindWhatIsKept();
        endKeepsTheFirst();
        countAtTheMost();
        countBeyond();
        clearOfNoneAndOfTwelve();
        clearLeavesTheRest();
        aLongLife();
        calls.done();
    }

    private static void due(String call, long got, long want) {
        calls.due(call, got, want);
    }

    private static void newObjectHasNothing() {
        QueryClasses x = new QueryClasses();
        due("1 N", x.count(0), 0);
        due("1 columns", x.count(1), 0);
        due("1 queries", x.count(2), 0);
        due("1 bytes", x.count(3), 0);
        due("1 no query to run", x.run(0), -1);
        due("1 no query to look at", x.acts(0, 0), -1);
        due("1 no act to look at", x.act(0, 0, 0, 0), -2);
        due("1 no text", x.fault(), 0);
        int[] told = {0, -1, -1, 0, 0, -1};
        for (int what = 0; what < 6; what++) due("1 told(" + what + ")", x.told(what), told[what]);
        due("1 no hit", x.hit(0), -1);
        due("1 no score", x.score(0), LOST);
        due("1 no value", x.value(0), LOST);
        for (int c = 0; c < 10; c++) {
            due("1 MISSING", x.about(c, 0), -1);
            due("1 no cell", x.cell(c, 0), LOST);
            due("1 nothing to drop", x.drop(c), 0);
            due("1 the text that needs $" + c, Calls.ask(x, "find $" + c), -15);
            due("1 its fault", x.fault(), 5);
        }
        due("1 a query", Calls.ask(x, "find yes"), 0);
        due("1 no objects", x.run(0), 0);
        due("1 no acts", x.told(3), 0);
    }

    private static void newObjectsAreApart() {
        QueryClasses x = new QueryClasses();
        x.objects(3);
        x.column(0, 4, 2);
        Calls.ask(x, "find yes");
        Calls.lay(x, "find");
        QueryClasses y = new QueryClasses();
        for (int what = 0; what < 4; what++) due("1 another one has nothing", y.count(what), 0);
        y.objects(5);
        y.column(0, 5, 1);
        y.put(0, 0, 9);
        due("1 the first one stays", x.count(0), 3);
        due("1 the first one stays", x.about(0, 0), 4);
        due("1 the first one stays", x.cell(0, 0), 0);
        due("1 the first one stays", x.count(3), 4);
    }

    private static void objectsFromNoneToSixteen() {
        QueryClasses x = new QueryClasses();
        Calls.ask(x, "find yes");
        int before = 0;
        for (int n = 0; n <= 16; n++) {
            due("2 objects(" + n + ")", x.objects(n), before);
            due("2 N", x.count(0), n);
            due("2 so many are visited", x.run(0), n);
            due("2 the last one", x.hit(n - 1), n - 1);
            due("2 none behind it", x.hit(n), -1);
            before = n;
        }
        due("2 the same again", x.objects(16), 16);
        due("2 none", x.objects(0), 16);
        due("2 none again", x.objects(0), 0);
        due("2 none is visited", x.run(0), 0);
    }

    private static void objectsBeyond() {
        int[] wrong = {-1, 17, -16, 32, 256 + 3, MIN, MAX};
        for (int n : wrong) {
            QueryClasses x = new QueryClasses();
            due("2 of a new one objects(" + n + ")", x.objects(n), -1);
            due("2 N is 0 yet", x.objects(16), 0);
            due("2 of a full one objects(" + n + ")", x.objects(n), -1);
            due("2 N is 16 yet", x.objects(7), 16);
        }
    }

    private static void columnsFromNoneToSixteenCells() {
        for (int lane = 0; lane < 8; lane++) {
            QueryClasses x = new QueryClasses();
            for (int n = 0; n <= 16; n++) {
                int c = n % 2 == 0 ? 0 : 9;
                due("3 column", x.column(c, lane, n), 1);
                due("3 its LANE", x.about(c, 0), lane);
                due("3 its CELLS", x.about(c, 1), n);
                due("3 the last one is 0 at first", x.cell(c, n - 1), n == 0 ? LOST : 0);
                due("3 none behind it", x.cell(c, n), LOST);
                due("3 a CELL to set", x.put(c, n - 1, 1), n == 0 ? -1 : 1);
            }
        }
        QueryClasses x = new QueryClasses();
        for (int c = 0; c < 10; c++) {
            due("3 how many there were", x.count(1), c);
            due("3 column " + c, x.column(c, 4, 16), 1);
            for (int i = 0; i < 16; i++) due("3 0 at first", x.cell(c, i), 0);
        }
        due("3 all ten", x.count(1), 10);
    }

    private static void columnsBeyond() {
        int[][] wrong = {{-1, 4, 2}, {10, 4, 2}, {MIN, 4, 2}, {MAX, 4, 2}, {3, -1, 2}, {3, 8, 2}, {3, MIN, 2}, {3, MAX, 2},
            {3, 4, -1}, {3, 4, 17}, {3, 4, MIN}, {3, 4, MAX}, {3, 0, 17}, {3, 7, 17}, {-1, -1, -1}, {10, 8, 17}};
        for (int[] w : wrong) {
            QueryClasses x = new QueryClasses();
            String call = "3 column(" + w[0] + ", " + w[1] + ", " + w[2] + ")";
            due(call, x.column(w[0], w[1], w[2]), -1);
            due(call + ": none came", x.count(1), 0);
            x.column(3, 5, 1);
            x.put(3, 0, 6);
            due(call, x.column(w[0], w[1], w[2]), -1);
            due(call + ": it stays", x.about(3, 0), 5);
            due(call + ": it stays", x.cell(3, 0), 6);
        }
    }

    private static void columnAgainIsANewRow() {
        QueryClasses x = new QueryClasses();
        x.column(0, 4, 1);
        x.put(0, 0, 5);
        x.share(9, 0);
        due("3 the same LANE and CELLS", x.column(0, 4, 1), 1);
        due("3 its CELL is 0", x.cell(0, 0), 0);
        due("3 the other COLUMN has the old row", x.cell(9, 0), 5);
        due("3 they aren't the same one", x.about(9, 2), 9);
        x.put(0, 0, 7);
        due("3 they aren't the same one", x.cell(9, 0), 5);
    }

    private static void shareAtTheEnds() {
        QueryClasses x = new QueryClasses();
        x.column(0, 5, 2);
        due("4 share(9, 0)", x.share(9, 0), 1);
        due("4 two", x.count(1), 2);
        x.put(9, 1, -4);
        due("4 the same row", x.cell(0, 1), -4);
        due("4 with itself", x.share(0, 0), 1);
        due("4 it is there", x.cell(0, 1), -4);
        x.drop(0);
        due("4 share(0, 9)", x.share(0, 9), 1);
        due("4 the row came back", x.cell(0, 1), -4);
        due("4 the same again", x.share(0, 9), 1);
        for (int c = 1; c < 9; c++) due("4 all of them", x.share(c, c - 1), 1);
        x.put(4, 0, 11);
        for (int c = 0; c < 10; c++) due("4 one row for all", x.cell(c, 0), 11);
        for (int c = 0; c < 10; c++) due("4 one row for all", x.about(c, 2), 0);
        x.column(3, 4, 1);
        x.share(3, 8);
        due("4 over one that was there", x.cell(3, 0), 11);
    }

    private static void shareOfMissing() {
        QueryClasses x = new QueryClasses();
        due("4 MISSING of MISSING", x.share(0, 9), 1);
        due("4 none", x.count(1), 0);
        x.column(0, 4, 1);
        due("4 it becomes MISSING", x.share(0, 9), 1);
        due("4 it is", x.about(0, 0), -1);
        due("4 none", x.count(1), 0);
        x.column(9, 4, 1);
        due("4 later rows aren't shared", x.about(0, 0), -1);
    }

    private static void shareBeyond() {
        int[][] wrong = {{-1, 0}, {10, 0}, {0, -1}, {0, 10}, {MIN, 0}, {0, MIN}, {MAX, 0}, {0, MAX}, {-1, -1}, {10, 10}};
        for (int[] w : wrong) {
            QueryClasses x = new QueryClasses();
            x.column(0, 4, 1);
            due("4 share(" + w[0] + ", " + w[1] + ")", x.share(w[0], w[1]), -1);
            due("4 it stays", x.about(0, 1), 1);
            due("4 one", x.count(1), 1);
        }
    }

    private static void dropTells() {
        QueryClasses x = new QueryClasses();
        for (int c : new int[] {0, 9}) {
            due("5 it wasn't there", x.drop(c), 0);
            x.column(c, 4, 0);
            due("5 it was, without CELLS", x.drop(c), 1);
            due("5 it isn't", x.about(c, 1), -1);
            due("5 it wasn't there", x.drop(c), 0);
        }
        x.column(0, 4, 1);
        x.share(9, 0);
        for (int c : new int[] {-1, 10, MIN, MAX}) due("5 drop(" + c + ")", x.drop(c), -1);
        due("5 both stay", x.count(1), 2);
        due("5 one of them", x.drop(0), 1);
        due("5 the other stays", x.cell(9, 0), 0);
    }

    private static void putAtTheEndsOfARow() {
        for (int n : new int[] {0, 1, 2, 15, 16}) {
            for (int lane = 0; lane < 8; lane++) {
                QueryClasses x = new QueryClasses();
                x.column(9, lane, n);
                due("6 CELL -1", x.put(9, -1, 1), -1);
                due("6 CELL n", x.put(9, n, 1), -1);
                due("6 CELL MIN", x.put(9, MIN, 1), -1);
                due("6 CELL MAX", x.put(9, MAX, 1), -1);
                due("6 CELL 16", x.put(9, 16, 1), -1);
                if (n == 0) continue;
                due("6 the first CELL", x.put(9, 0, 0), 1);
                due("6 the last CELL", x.put(9, n - 1, 1), 1);
                due("7 the last CELL", x.cell(9, n - 1), 1);
                due("7 the one ahead of it", x.cell(9, n - 2), n == 1 ? LOST : 0);
            }
        }
    }

    private static void kept(int lane, long v, long want) {
        QueryClasses x = new QueryClasses();
        x.column(0, lane, 2);
        due("6 put of lane " + lane, x.put(0, 0, v), 1);
        due("7 cell of lane " + lane + " that was put " + v, x.cell(0, 0), want);
        due("7 the next one", x.cell(0, 1), 0);
    }

    private static void putKeepsLowestBits() {
        long[] truths = {1, -1, 2, 256, 1L << 32, 1L << 63, Long.MAX_VALUE};
        for (long v : truths) kept(0, v, 1);
        kept(0, 0, 0);
        long[][] bytes = {{127, 127}, {128, -128}, {-128, -128}, {-129, 127}, {255, -1}, {256, 0}, {1L << 40, 0}};
        for (long[] b : bytes) kept(1, b[0], b[1]);
        long[][] shorts = {{32767, 32767}, {32768, -32768}, {-32768, -32768}, {-32769, 32767}, {65535, -1}, {65536, 0}};
        for (long[] s : shorts) kept(2, s[0], s[1]);
        long[][] chars = {{65535, 65535}, {65536, 0}, {-1, 65535}, {-65536, 0}, {32768, 32768}, {-65535, 1}};
        for (long[] c : chars) kept(3, c[0], c[1]);
        long[][] ints = {{MAX, MAX}, {MAX + 1L, MIN}, {MIN, MIN}, {MIN - 1L, MAX}, {0xFFFFFFFFL, -1}, {1L << 32, 0}};
        for (long[] i : ints) kept(4, i[0], i[1]);
        long[] longs = {Long.MAX_VALUE, Long.MIN_VALUE, -1, 1L << 32};
        for (long v : longs) kept(5, v, v);
        kept(6, 0x80000000L, MIN);
        kept(6, MIN, MIN);
        kept(6, 0x7FF8000000000000L, 0);
        kept(6, 0x123456783F800000L, 0x3F800000);
        kept(7, 0x8000000000000000L, Long.MIN_VALUE);
        kept(7, 0x7FC00000L, 0x7FC00000L);
    }

    private static void putRefusesNoNumber() {
        QueryClasses x = new QueryClasses();
        x.column(0, 6, 1);
        x.column(1, 7, 1);
        x.put(0, 0, Calls.bits(2.5f));
        x.put(1, 0, Calls.bits(2.5));
        long[] noFloats = {0x7F800001L, 0x7FC00000L, 0x7FFFFFFFL, 0xFF800001L, 0xFFFFFFFFL, -1, 0xFF800001, 0x17F800001L};
        for (long v : noFloats) due("6 no float " + Long.toHexString(v), x.put(0, 0, v), -1);
        due("6 it stays", x.cell(0, 0), Calls.bits(2.5f));
        long[] floats = {0x7F7FFFFFL, 0x7F800000L, 0xFF7FFFFF, 0xFF800000, 0xFF800000L};
        for (long v : floats) {
            due("6 a float " + Long.toHexString(v), x.put(0, 0, v), 1);
            due("7 a float", x.cell(0, 0), (int) v);
        }
        long[] noDoubles = {0x7FF0000000000001L, 0x7FF8000000000000L, Long.MAX_VALUE, 0xFFF0000000000001L, -1};
        for (long v : noDoubles) due("6 no double " + Long.toHexString(v), x.put(1, 0, v), -1);
        due("6 it stays", x.cell(1, 0), Calls.bits(2.5));
        long[] doubles = {0x7FEFFFFFFFFFFFFFL, 0x7FF0000000000000L, 0xFFEFFFFFFFFFFFFFL, 0xFFF0000000000000L};
        for (long v : doubles) {
            due("6 a double " + Long.toHexString(v), x.put(1, 0, v), 1);
            due("7 a double", x.cell(1, 0), v);
        }
        for (int lane = 1; lane < 6; lane++) {
            x.column(2, lane, 1);
            due("6 other LANES take all bits", x.put(2, 0, 0x7FF8000000000000L), 1);
            due("6 other LANES take all bits", x.put(2, 0, 0x7FC00000L), 1);
        }
    }

    private static void putOfMissing() {
        QueryClasses x = new QueryClasses();
        for (int c : new int[] {0, 9}) {
            due("6 NO of the first CELL", x.put(c, 0, 1), -3);
            due("6 NO of the last CELL", x.put(c, 15, -1), -3);
            due("6 BAD goes first", x.put(c, -1, 1), -1);
            due("6 BAD goes first", x.put(c, 16, 1), -1);
            due("6 it is MISSING yet", x.about(c, 0), -1);
        }
        for (int c : new int[] {-1, 10, MIN, MAX}) due("6 no COLUMN", x.put(c, 0, 1), -1);
        x.column(0, 4, 1);
        x.share(9, 0);
        x.drop(0);
        due("6 NO again", x.put(0, 0, 3), -3);
        due("6 the row that was there stays", x.cell(9, 0), 0);
    }

    private static void cellLost() {
        QueryClasses x = new QueryClasses();
        x.column(0, 5, 16);
        x.column(9, 5, 1);
        for (int c : new int[] {-1, 10, MIN, MAX, 5}) due("7 no such COLUMN " + c, x.cell(c, 0), LOST);
        for (int i : new int[] {-1, 16, MIN, MAX}) due("7 no such CELL " + i, x.cell(0, i), LOST);
        due("7 there", x.cell(0, 0), 0);
        due("7 there", x.cell(0, 15), 0);
        due("7 there", x.cell(9, 0), 0);
        due("7 no such CELL", x.cell(9, 1), LOST);
        due("7 both wrong", x.cell(-1, -1), LOST);
    }

    private static void aboutTheLeast() {
        QueryClasses x = new QueryClasses();
        due("8 all MISSING", x.about(9, 2), 0);
        due("8 all MISSING", x.about(0, 2), 0);
        x.column(0, 4, 1);
        due("8 itself", x.about(0, 2), 0);
        due("8 the least MISSING", x.about(9, 2), 1);
        due("8 the least MISSING itself", x.about(1, 2), 1);
        x.column(9, 4, 1);
        due("8 a like one isn't the same", x.about(9, 2), 9);
        x.share(9, 0);
        due("8 the same one", x.about(9, 2), 0);
        x.column(8, 0, 0);
        x.column(7, 0, 0);
        due("8 rows without CELLS, too", x.about(8, 2), 8);
        x.share(8, 7);
        due("8 rows without CELLS, too", x.about(8, 2), 7);
        for (int c = 1; c < 9; c++) x.column(c, 0, 1);
        x.drop(9);
        due("8 the one that is MISSING", x.about(9, 2), 9);
    }

    private static void aboutBeyond() {
        QueryClasses x = new QueryClasses();
        x.column(0, 7, 16);
        x.column(9, 0, 0);
        due("8 LANE 7", x.about(0, 0), 7);
        due("8 16 CELLS", x.about(0, 1), 16);
        due("8 LANE 0", x.about(9, 0), 0);
        due("8 no CELLS", x.about(9, 1), 0);
        due("8 NONE", x.about(1, 0), -1);
        due("8 NONE", x.about(1, 1), -1);
        for (int c : new int[] {-1, 10, MIN, MAX}) {
            for (int what = -1; what < 4; what++) due("8 about(" + c + ", " + what + ")", x.about(c, what), -2);
        }
        for (int what : new int[] {-1, 3, MIN, MAX}) {
            due("8 of one that is there", x.about(0, what), -2);
            due("8 of one that is MISSING", x.about(1, what), -2);
        }
    }

    private static void feedUpToFourHundred() {
        QueryClasses x = new QueryClasses();
        for (int n = 20; n <= 400; n += 20) {
            due("9 how many", x.feed(0, 0, 0, 0, 0), n);
            due("20 how many", x.count(3), n);
        }
        due("9 more than 400", x.feed(0, 0, 0, 0, 0), -2);
        due("9 400 yet", x.count(3), 400);
        for (int n = 399; n > 380; n--) {
            due("10 end", x.end(n), 1);
            due("9 more than 400 from " + n, x.feed(0, 0, 0, 0, 0), -2);
            due("9 so many yet", x.count(3), n);
        }
        x.end(380);
        due("9 just 400", x.feed(0, 0, 0, 0, 0), 400);
        x.end(379);
        due("9 one below", x.feed(0, 0, 0, 0, 0), 399);
    }

    /** Where a byte stands is told by where it is no TOKEN. */
    private static void feedHighestByteFirst() {
        int blanks = 0x20202020;
        for (int at = 0; at < 20; at++) {
            for (int b : new int[] {0, 1, 127, 128, 255}) {
                int[] n = {blanks, blanks, blanks, blanks, blanks};
                int shift = 24 - at % 4 * 8;
                n[at / 4] = n[at / 4] & ~(255 << shift) | b << shift;
                QueryClasses x = new QueryClasses();
                x.feed(n[0], n[1], n[2], n[3], n[4]);
                due("9 byte " + b + " at " + at, x.query(), -10 - at);
                due("9 no TOKEN", x.fault(), 1);
                x.feed(blanks, blanks, blanks, blanks, blanks);
                x.feed(n[0], n[1], n[2], n[3], n[4]);
                due("9 byte " + b + " at 20 and " + at, x.query(), -30 - at);
            }
        }
    }

    private static void feedBehindWhatIsKept() {
        QueryClasses x = new QueryClasses();
        Calls.lay(x, "find yes");
        x.feed(0x20616E64, 0x206E6F20, 0x6F722079, 0x65732020, 0x20202020);
        due("9 find yes and no or yes", x.count(3), 28);
        due("11", x.query(), 0);
        due("13 all of it", x.acts(0, 0), 9);
        x.feed(0x66696E64, 0x206E6F20, 0x40404040, 0x40404040, 0x40404040);
        x.end(8);
        due("10 what is behind is gone", x.query(), 1);
        x.feed(0x20202020, 0x20202020, 0x20202020, 0x20202020, 0x20202020);
        due("10 it doesn't come back", x.query(), -30);
    }

    private static void endKeepsTheFirst() {
        QueryClasses x = new QueryClasses();
        due("10 of none -1", x.end(-1), -1);
        due("10 of none 1", x.end(1), -1);
        due("10 of none 0", x.end(0), 1);
        x.feed(1, 2, 3, 4, 5);
        for (int n : new int[] {-1, 21, 400, 401, MIN, MAX}) due("10 of twenty " + n, x.end(n), -1);
        due("10 twenty yet", x.count(3), 20);
        due("10 all", x.end(20), 1);
        due("10 twenty yet", x.count(3), 20);
        due("10 all but one", x.end(19), 1);
        due("10 nineteen", x.count(3), 19);
        due("10 twenty no more", x.end(20), -1);
        due("10 one", x.end(1), 1);
        due("10 one", x.count(3), 1);
        due("10 none", x.end(0), 1);
        due("10 none", x.count(3), 0);
    }

    private static void countAtTheMost() {
        QueryClasses x = new QueryClasses();
        x.objects(16);
        for (int c = 0; c < 10; c++) x.column(c, 0, 0);
        for (int q = 0; q < 12; q++) Calls.ask(x, "find no");
        for (int n = 0; n < 20; n++) x.feed(n, n, n, n, n);
        due("20 OBJECTS", x.count(0), 16);
        due("20 COLUMNS", x.count(1), 10);
        due("20 queries", x.count(2), 12);
        due("20 bytes", x.count(3), 400);
        x.drop(9);
        x.share(0, 9);
        due("20 COLUMNS that are not MISSING", x.count(1), 8);
        x.share(0, 1);
        due("20 COLUMNS, though one row", x.count(1), 9);
    }

    private static void countBeyond() {
        QueryClasses x = new QueryClasses();
        for (int what : new int[] {-1, 4, MIN, MAX}) due("20 count(" + what + ")", x.count(what), -1);
    }

    private static void clearOfNoneAndOfTwelve() {
        QueryClasses x = new QueryClasses();
        due("21 none", x.clear(), 0);
        Calls.ask(x, "find yes");
        due("21 one", x.clear(), 1);
        due("21 none", x.clear(), 0);
        for (int q = 0; q < 12; q++) due("11 from 0 on", Calls.ask(x, "find no"), q);
        due("21 twelve", x.clear(), 12);
        due("20 none", x.count(2), 0);
        for (int q = 0; q < 12; q++) {
            due("21 no query", x.run(q), -1);
            due("21 no code", x.acts(q, 0), -1);
            due("21 no act", x.act(q, 0, 0, 0), -2);
        }
        due("11 from 0 on again", Calls.ask(x, "find yes"), 0);
        due("13 the new one", x.act(0, 0, 0, 1), 1);
        due("21 the old ones don't come back", x.run(1), -1);
    }

    private static void clearLeavesTheRest() {
        QueryClasses x = new QueryClasses();
        x.objects(2);
        x.column(0, 4, 2);
        x.put(0, 1, 8);
        Calls.ask(x, "fold sum $0 by row");
        due("15", x.run(0), 2);
        Calls.lay(x, "find yes");
        due("21", x.clear(), 1);
        int[] told = {0, -1, -1, 0, 0, -1};
        for (int what = 0; what < 6; what++) due("21 told(" + what + ")", x.told(what), told[what]);
        due("21 no hit", x.hit(0), -1);
        due("21 no KEY", x.score(0), LOST);
        due("21 no VALUE", x.value(0), LOST);
        due("21 OBJECTS", x.count(0), 2);
        due("21 the CELL", x.cell(0, 1), 8);
        due("21 THE TAPE", x.query(), 0);
        x.objects(1);
        Calls.ask(x, "find 1/row=1");
        due("15 it fails", x.run(1), -10);
        x.clear();
        for (int what = 0; what < 6; what++) due("21 of one that failed told(" + what + ")", x.told(what), told[what]);
    }

    /** An object is used for 512 calls at most: the last of them answers as the first. */
    private static void aLongLife() {
        QueryClasses x = new QueryClasses();
        x.objects(16);
        x.column(0, 4, 16);
        for (int i = 0; i < 84; i++) {
            due("a long life: feed", x.feed(0x73657420, 0x24303A3D, 0x24302B31, 0x20202020, 0x20202020), 20);
            due("a long life: query", x.query(), 0);
            due("a long life: run", x.run(0), 16);
            due("a long life: column", x.column(1 + i % 9, i % 8, 16), 1);
            due("a long life: cell", x.cell(0, 15), i + 1);
            due("a long life: clear", x.clear(), 1);
        }
        x.feed(0x666F6C64, 0x20636F75, 0x6E742020, 0x20202020, 0x20202020);
        x.query();
        x.run(0);
        x.end(0);
        x.objects(16);
        due("a long life: the 512th call", x.value(0), 16);
    }
}
