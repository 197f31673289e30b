/** The boundaries of promises 33 to 37: sheets, marks read from them, what is counted. */
public final class BoundsOfSheetsTest {
    private static final String ONE = "one forth;";
    private static final String DEED = "deed 0 0 0 0;";

    public static void main(String[] args) {
        sheet();
        sheetOfSize();
        newRow();
        lay();
        lowestBits();
        readBad();
        readWithin();
        readNothing();
        readAsOfAnotherLane();
        readNone();
        readBadMarks();
        readFirstMet();
        readAsByMark();
        torn();
        count();
        countEach();
        Checks.end("BoundsOfSheetsTest");
    }

    private static EveningFirst nobody() {
        return new EveningFirst();
    }

    private static EveningFirst eight() {
        return Checks.told(ONE + Checks.times(8, DEED));
    }

    // ---- sheets

    private static void sheet() {
        Checks.says("A SHEET is a new row of CELLS 0: 1. BAD: also n above 40; -10 - 4. SHEETS 0 to 3, lanes 0 to 2.");
        for (int k = 0; k < 4; k++) {
            for (int lane = 0; lane < 3; lane++) {
                EveningFirst x = nobody();
                Checks.due("sheet(" + k + ", " + lane + ", 3)", x.sheet(k, lane, 3), 1);
                for (int other = 0; other < 4; other++) {
                    Checks.due("lay(" + other + ", 2, 0)", x.lay(other, 2, 0), other == k ? 1 : -11);
                }
                for (int as = 0; as < 3; as++) {
                    x.read(k, as, 0, 0);
                    Checks.due("torn() of lane " + lane + " as of " + as, x.torn(), as == lane ? 0 : 3);
                }
            }
        }
        Checks.badOutside("sheet, k", Checks::rich, 0, 3, (y, k) -> y.sheet(k, 0, 1));
        Checks.badOutside("sheet, lane", Checks::rich, 0, 2, (y, lane) -> y.sheet(0, lane, 1));
    }

    private static void sheetOfSize() {
        Checks.says("with 0 to 40 CELLS. BAD: also n above 40; -10 - 4. 4 SIZE (below 0)");
        for (int n = 0; n <= 40; n++) {
            EveningFirst x = nobody();
            Checks.due("sheet(0, 2, " + n + ")", x.sheet(0, 2, n), 1);
            Checks.due("count(5)", x.count(5), n);
            Checks.due("lay, the last", x.lay(0, n - 1, 0), n == 0 ? -12 : 1);
            Checks.due("lay, behind the last", x.lay(0, n, 0), -12);
        }
        for (int n : new int[] {41, 42, 80, 256, 65536, Integer.MAX_VALUE - 1, Integer.MAX_VALUE}) {
            for (int k = 0; k < 4; k++) {
                int of = k;
                Checks.refused("sheet(" + k + ", 1, " + n + ")", Checks::rich, y -> y.sheet(of, 1, n), -1);
            }
        }
        for (int n : new int[] {-1, -2, -40, -41, -256, -65536, Integer.MIN_VALUE + 1, Integer.MIN_VALUE}) {
            for (int k = 0; k < 4; k++) {
                int of = k;
                Checks.refused("sheet(" + k + ", 1, " + n + ")", Checks::rich, y -> y.sheet(of, 1, n), -14);
            }
        }
        Checks.says("the first that fits");
        Checks.refused("sheet(4, 0, -1)", Checks::rich, y -> y.sheet(4, 0, -1), -1);
        Checks.refused("sheet(-1, 0, -1)", Checks::rich, y -> y.sheet(-1, 0, -1), -1);
        Checks.refused("sheet(0, 3, -1)", Checks::rich, y -> y.sheet(0, 3, -1), -1);
        Checks.refused("sheet(0, -1, -1)", Checks::rich, y -> y.sheet(0, -1, -1), -1);
    }

    private static void newRow() {
        Checks.says("A SHEET is a new row of CELLS 0: 1.");
        for (int lane = 0; lane < 3; lane++) {
            EveningFirst x = eight();
            x.sheet(1, lane, 40);
            for (int i = 0; i < 40; i++) {
                x.lay(1, i, 9);
            }
            x.sheet(1, lane, 2);
            Checks.due("read, as many as there are", x.read(1, lane, 0, 20), 1);
            Checks.due("torn(), the old CELLS are gone", x.torn(), 2);
            x.sheet(1, lane, 40);
            Checks.due("read, all are 0 again", x.read(1, lane, 0, 20), 20);
            Checks.due("torn()", x.torn(), 0);
            Checks.due("count(0)", x.count(0), 0);
        }
    }

    private static void lay() {
        Checks.says("CELL i of a SHEET becomes v (its lowest bits): 1. BAD: k; -10 less the FAULT: NULL, INDEX.");
        Checks.badOutside("lay, k", Checks::rich, 0, 3, (y, k) -> y.lay(k, 0, 1));
        Checks.badOutside("lay, k and i", Checks::rich, 0, 3, (y, k) -> y.lay(k, -1, 1));
        for (int i : new int[] {Integer.MIN_VALUE, -1, 0, 1, 39, 40, Integer.MAX_VALUE}) {
            Checks.refused("lay(3, " + i + ", 1), nothing", Checks::rich, y -> y.lay(3, i, 1), -11);
        }
        for (int i : Checks.outside(0, 5)) {
            Checks.refused("lay(0, " + i + ", 1)", Checks::rich, y -> y.lay(0, i, 1), -12);
        }
        for (int i : Checks.outside(0, 4)) {
            Checks.refused("lay(1, " + i + ", 1)", Checks::rich, y -> y.lay(1, i, 1), -12);
        }
        for (int i : Checks.outside(0, 7)) {
            Checks.refused("lay(2, " + i + ", 1)", Checks::rich, y -> y.lay(2, i, 1), -12);
        }
        EveningFirst x = nobody();
        x.sheet(0, 0, 40);
        for (int i = 0; i < 40; i++) {
            Checks.due("lay(0, " + i + ", 1)", x.lay(0, i, 1), 1);
        }
        Checks.due("lay(0, 40, 1)", x.lay(0, 40, 1), -12);
        Checks.due("lay(0, -1, 1)", x.lay(0, -1, 1), -12);
        x.sheet(0, 0, 0);
        Checks.due("lay(0, 0, 1) of no CELLS", x.lay(0, 0, 1), -12);
        x.sheet(0, 0, 1);
        Checks.due("lay(0, 0, 1) of one CELL", x.lay(0, 0, 1), 1);
        Checks.due("lay(0, 1, 1) of one CELL", x.lay(0, 1, 1), -12);
    }

    /** What a CELL holds is shown by the MARK that is read of it: 0 to 2, or BAD. */
    private static void holds(int lane, int v, int value) {
        EveningFirst x = Checks.told(ONE + DEED);
        x.sheet(2, lane, 2);
        Checks.due("lay(2, 1, " + v + ") in lane " + lane, x.lay(2, 1, v), 1);
        Checks.due("read of " + v + " in lane " + lane, x.read(2, lane, 0, 1), value < 0 ? -20 : 1);
        if (value >= 0) {
            Checks.due("deed(0, 5) of " + v + " in lane " + lane, x.deed(0, 5), value);
        }
    }

    private static void lowestBits() {
        Checks.says("CELL i of a SHEET becomes v (its lowest bits). rows of BYTES (lane 0), SHORTS (1), INTS (2)");
        for (int lane = 0; lane < 3; lane++) {
            for (int v = 0; v < 3; v++) {
                holds(lane, v, v);
                holds(lane, v + 256, lane == 0 ? v : -1);
                holds(lane, v - 256, lane == 0 ? v : -1);
                holds(lane, v + 512, lane == 0 ? v : -1);
                holds(lane, v + 65536, lane <= 1 ? v : -1);
                holds(lane, v - 65536, lane <= 1 ? v : -1);
                holds(lane, v + Integer.MIN_VALUE, lane <= 1 ? v : -1);
                holds(lane, v + 32768, lane == 0 ? v : -1);
                holds(lane, v + 128, -1);
                holds(lane, v - 128, -1);
            }
            for (int v : new int[] {-1, -2, 3, 127, 128, 255, 32767, 65535, Integer.MAX_VALUE}) {
                holds(lane, v, -1);
            }
        }
    }

    // ---- marks read from them

    private static void readBad() {
        Checks.says("n (0 to 20) MARKS (DEED, MARK) are read. BAD: k, lane, n");
        Checks.badOutside("read, k", Checks::rich, 0, 3, (y, k) -> y.read(k, 0, 0, 1));
        Checks.badOutside("read, lane", Checks::rich, 0, 2, (y, lane) -> y.read(0, lane, 0, 1));
        Checks.badOutside("read, n", Checks::rich, 0, 20, (y, n) -> y.read(0, 0, 0, n));
        Checks.badOutside("read, k and n 0", Checks::rich, 0, 3, (y, k) -> y.read(k, 0, 0, 0));
        Checks.badOutside("read, lane of nothing", Checks::rich, 0, 2, (y, lane) -> y.read(3, lane, 0, 1));
        Checks.badOutside("read, n of nothing", Checks::rich, 0, 20, (y, n) -> y.read(3, 0, 0, n));
        Checks.badOutside("read, n of another lane", Checks::rich, 0, 20, (y, n) -> y.read(0, 1, 0, n));
    }

    private static void readWithin() {
        Checks.says("two CELLS each from CELL f on: how many came. What the machine refuses: those that were whole ahead come");
        for (int cells = 0; cells <= 40; cells++) {
            for (int f : new int[] {0, 1, 2, cells - 3, cells - 2, cells - 1, cells, cells + 1}) {
                EveningFirst x = Checks.told(ONE + DEED);
                x.sheet(3, 1, cells);
                int whole = f < 0 ? 0 : Math.max(0, (cells - f) / 2);
                for (int n : new int[] {0, 1, whole - 1, whole, whole + 1, 19, 20}) {
                    if (n >= 0 && n <= 20) {
                        String name = "read of " + cells + " CELLS from " + f + ", " + n;
                        Checks.due(name, x.read(3, 1, f, n), Math.min(n, whole));
                        Checks.due("torn() behind " + name, x.torn(), n > whole ? 2 : 0);
                    }
                }
            }
        }
        EveningFirst x = Checks.told(ONE + DEED);
        x.sheet(3, 1, 40);
        for (int f : new int[] {Integer.MIN_VALUE, Integer.MIN_VALUE + 1, -65536, -256, -40, -39, -2, -1, 40, 41, 256, 65536,
            Integer.MAX_VALUE - 1, Integer.MAX_VALUE}) {
            for (int n : new int[] {1, 2, 20}) {
                Checks.due("read from " + f + ", " + n, x.read(3, 1, f, n), 0);
                Checks.due("torn()", x.torn(), 2);
            }
            Checks.due("read from " + f + ", none", x.read(3, 1, f, 0), 0);
            Checks.due("torn()", x.torn(), 0);
        }
    }

    private static void readNothing() {
        Checks.says("SHEETS are rows .. or nothing (at first). A FAULT is what the machine finds: 1 NULL (nothing)");
        EveningFirst x = eight();
        for (int k = 0; k < 4; k++) {
            for (int lane = 0; lane < 3; lane++) {
                for (int f : new int[] {0, -1, 40, Integer.MAX_VALUE}) {
                    x.read(k, lane, f, 0);
                    Checks.due("read(" + k + ", " + lane + ", " + f + ", 1) of nothing", x.read(k, lane, f, 1), 0);
                    Checks.due("torn()", x.torn(), 1);
                }
            }
            x.read(k, 0, 0, 0);
            Checks.due("read, 20 of nothing", x.read(k, 0, 0, 20), 0);
            Checks.due("torn()", x.torn(), 1);
        }
        x.sheet(0, 0, 0);
        Checks.due("read of no CELLS", x.read(0, 0, 0, 1), 0);
        Checks.due("torn(), no CELLS are not nothing", x.torn(), 2);
    }

    private static void readAsOfAnotherLane() {
        Checks.says("a SHEET taken as of a lane. 3 CAST (another lane)");
        for (int lane = 0; lane < 3; lane++) {
            for (int as = 0; as < 3; as++) {
                EveningFirst x = eight();
                Checks.lay(x, 2, lane, 0, 1, 9, 9);
                Checks.due("read of lane " + lane + " as of " + as, x.read(2, as, 0, 1), as == lane ? 1 : 0);
                Checks.due("torn()", x.torn(), as == lane ? 0 : 3);
                Checks.due("count(0)", x.count(0), as == lane ? 1 : 0);
                Checks.due("read of a BAD one", x.read(2, as, 2, 1), as == lane ? -20 : 0);
                Checks.due("read behind the last", x.read(2, as, 4, 1), 0);
                Checks.due("torn(), it is taken first", x.torn(), as == lane ? 2 : 3);
            }
        }
    }

    private static void readNone() {
        Checks.says("n (0 to 20) MARKS are read of a SHEET taken as of a lane");
        EveningFirst x = eight();
        Checks.lay(x, 0, 0, 9, 9);
        x.read(1, 0, 0, 1);
        Checks.due("read(0, 0, 0, 0): none is asked for", x.read(0, 0, 0, 0), 0);
        Checks.due("torn()", x.torn(), 0);
        Checks.due("read(0, 1, 0, 0): taken as of another lane", x.read(0, 1, 0, 0), 0);
        Checks.due("torn()", x.torn(), 3);
        Checks.due("read(1, 1, 0, 0): nothing, and no CELL is asked for", x.read(1, 1, 0, 0), 0);
        Checks.due("torn()", x.torn(), 0);
    }

    private static void readBadMarks() {
        Checks.says("-20 less i: the i-th, whole, is BAD: then none came");
        for (int deeds = 0; deeds <= 8; deeds++) {
            EveningFirst x = Checks.told(ONE + Checks.times(deeds, DEED));
            for (int d = -2; d < 10; d++) {
                for (int m = -1; m < 4; m++) {
                    boolean good = d >= 0 && d < deeds && m >= 0 && m < 3;
                    Checks.lay(x, 0, 0, d, m);
                    Checks.due("read of (" + d + ", " + m + "), DEEDS " + deeds, x.read(0, 0, 0, 1), good ? 1 : -20);
                }
            }
        }
        for (int i = 0; i < 20; i++) {
            int at = i;
            EveningFirst x = withBadAt(at);
            Checks.refused("read, " + at + " is BAD", () -> withBadAt(at), y -> y.read(0, 2, 0, 20), -20 - at);
            Checks.due("read, it is not asked for", x.read(0, 2, 0, at), at);
            Checks.due("torn()", x.torn(), 0);
            Checks.due("count(0)", x.count(0), Math.min(at, 8));
        }
    }

    /** Marks of all eight by turns, one of them BAD. */
    private static EveningFirst withBadAt(int at) {
        EveningFirst x = eight();
        x.sheet(0, 2, 40);
        for (int i = 0; i < 20; i++) {
            x.lay(0, 2 * i, i % 8);
            x.lay(0, 2 * i + 1, i == at ? 3 : 1);
        }
        return x;
    }

    private static EveningFirst richBefore(int... cells) {
        EveningFirst x = Checks.rich();
        Checks.lay(x, 0, 1, cells);
        return x;
    }

    private static void readFirstMet() {
        Checks.says("-20 less i: the i-th, whole, is BAD: then none came; the first met");
        Checks.refused("read, two are BAD", () -> richBefore(0, 1, 7, 0, 0, 3), y -> y.read(0, 1, 0, 3), -21);
        Checks.refused("read, the first of two is BAD", () -> richBefore(0, 3, 7, 0), y -> y.read(0, 1, 0, 2), -20);
        Checks.refused("read, a BAD one ahead of the end", () -> richBefore(0, 2, 1, 2, 0, -1, 0), y -> y.read(0, 1, 0, 20), -22);
        EveningFirst x = richBefore(0, 2, 1, 2, 9);
        Checks.due("read, half a BAD one at the end", x.read(0, 1, 0, 20), 2);
        Checks.due("torn(), the end is met, it is not whole", x.torn(), 2);
        Checks.due("deed(0, 5)", x.deed(0, 5), 2);
        Checks.due("deed(1, 5)", x.deed(1, 5), 2);
        Checks.due("read, a half one alone", x.read(0, 1, 4, 1), 0);
        Checks.due("torn()", x.torn(), 2);
    }

    private static void readAsByMark() {
        Checks.says("MARKS (DEED, MARK) are read .. as by mark(): how many came");
        EveningFirst x = eight();
        Checks.lay(x, 1, 2, 0, 0, 1, 1, 2, 2, 7, 1, 7, 2, 2, 2);
        Checks.due("read, six", x.read(1, 2, 0, 6), 6);
        int[] marks = {0, 1, 2, 0, 0, 0, 0, 2};
        for (int d = 0; d < 8; d++) {
            Checks.due("deed(" + d + ", 5)", x.deed(d, 5), marks[d]);
        }
        Checks.due("read from CELL 1: (0, 1), (1, 2), (2, 7)", x.read(1, 2, 1, 2), 2);
        Checks.due("deed(0, 5)", x.deed(0, 5), 1);
        Checks.due("deed(1, 5)", x.deed(1, 5), 2);
        Checks.due("read from CELL 1, the third is BAD", x.read(1, 2, 1, 3), -22);
        EveningFirst y = nobody();
        y.sheet(0, 0, 2);
        Checks.due("read, there are no DEEDS", y.read(0, 0, 0, 1), -20);
        Checks.due("read of none, there are no DEEDS", y.read(0, 0, 0, 0), 0);
    }

    private static void torn() {
        Checks.says("The FAULT of the latest read() that came to an end; 0.");
        EveningFirst x = eight();
        Checks.due("torn() ahead of any read", x.torn(), 0);
        Checks.lay(x, 0, 0, 0, 1, 0, 9);
        int[] lanes = {0, 1};
        for (int lane : lanes) {
            x.read(0, lane, 9, 1);
            int found = lane == 0 ? 2 : 3;
            Checks.due("torn()", x.torn(), found);
            Checks.due("torn() again", x.torn(), found);
            x.read(0, 0, 0, 2);
            Checks.due("torn() behind one that is BAD at the second", x.torn(), found);
            x.read(0, 0, 0, 21);
            x.read(0, 0, 0, -1);
            x.read(4, 0, 0, 1);
            x.read(0, 3, 0, 1);
            Checks.due("torn() behind BAD", x.torn(), found);
            x.lay(1, 0, 0);
            x.lay(0, 9, 0);
            x.sheet(0, 0, -1);
            x.sheet(2, 1, 3);
            Checks.due("torn() is of read() alone", x.torn(), found);
            x.text();
            x.keep(0);
            x.back(0);
            Checks.due("torn() behind other calls", x.torn(), found);
            Checks.feed(x, ONE + DEED);
            x.text();
        }
        x.read(1, 0, 0, 1);
        Checks.due("torn(), NULL", x.torn(), 1);
        Checks.due("read", x.read(0, 0, 0, 1), 1);
        Checks.due("torn() behind a good one", x.torn(), 0);
    }

    // ---- what is counted

    private static void count() {
        Checks.says("How many: 0 DEEDS that must be, 1 that must not be, 2 SEEN, 3 IMAGES, 4 bytes on THE TAPE, "
                + "5 CELLS of SHEET 0 (NONE: nothing), 6 DEEDS in THE GREATEST. BAD.");
        Checks.badOutside("count", Checks::rich, 0, 6, EveningFirst::count);
        Checks.badOutside("count of nobody", BoundsOfSheetsTest::nobody, 0, 6, EveningFirst::count);
        EveningFirst x = Checks.rich();
        int[] due = {2, 2, 2, 1, 14, 6, 4};
        for (int what = 0; what < 7; what++) {
            Checks.due("count(" + what + ")", x.count(what), due[what]);
        }
        EveningFirst y = nobody();
        for (int what = 0; what < 7; what++) {
            Checks.due("count(" + what + ") of a new object", y.count(what), what == 5 ? -4 : 0);
        }
    }

    private static void countEach() {
        EveningFirst x = eight();
        for (int d = 0; d < 8; d++) {
            x.mark(d, 1);
            Checks.due("count(0)", x.count(0), d + 1);
            Checks.due("count(6)", x.count(6), 8);
        }
        for (int d = 0; d < 8; d++) {
            x.mark(d, 2);
            Checks.due("count(0)", x.count(0), 7 - d);
            Checks.due("count(1)", x.count(1), d + 1);
            Checks.due("count(6)", x.count(6), 7 - d);
        }
        for (int k = 1; k < 4; k++) {
            x.sheet(k, 0, 5);
            Checks.due("count(5), of SHEET 0 alone", x.count(5), -4);
        }
        for (int n : new int[] {0, 1, 40}) {
            x.sheet(0, 1, n);
            Checks.due("count(5)", x.count(5), n);
        }
        x.sheet(0, 1, 41);
        x.sheet(0, 1, -1);
        Checks.due("count(5) behind refused ones", x.count(5), 40);
    }
}
