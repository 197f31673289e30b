/** The boundaries of promises 6 to 14: what is asked of the text's people and deeds, and what is changed. */
public final class BoundsOfChangesTest {
    private static final String ONE = "one forth;";
    private static final String DEED = "deed 0 0 0 0;";

    public static void main(String[] args) {
        rule();
        one();
        rows();
        deed();
        go();
        birth();
        does();
        doesFull();
        shift();
        mark();
        odd();
        Checks.end("BoundsOfChangesTest");
    }

    private static EveningFirst full() {
        return Checks.told("one forth;one back;" + Checks.times(8, DEED));
    }

    private static void rule() {
        Checks.says("0 HOURS, 1 PEOPLE, 2 DEEDS. BAD.");
        EveningFirst x = Checks.rich();
        Checks.due("rule(0)", x.rule(0), 5);
        Checks.due("rule(1)", x.rule(1), 4);
        Checks.due("rule(2)", x.rule(2), 7);
        Checks.badOutside("rule", Checks::rich, 0, 2, EveningFirst::rule);
        Checks.badOutside("rule of a new object", EveningFirst::new, 0, 2, EveningFirst::rule);
    }

    private static void one() {
        Checks.says("Of a ONE: 0 WAY, 1 THINGS at his beginning (bits); 10 and i: the HOUR at place i of his row. BAD (also no such).");
        EveningFirst x = Checks.rich();
        int[] ways = {0, 1, 2, 2};
        int[] things = {1, 16, 10, 32};
        for (int p = 0; p < 4; p++) {
            Checks.due("one(" + p + ", 0)", x.one(p, 0), ways[p]);
            Checks.due("one(" + p + ", 1)", x.one(p, 1), things[p]);
        }
        for (int what : new int[] {0, 1, 10, 14}) {
            Checks.badOutside("one(.., " + what + ")", Checks::rich, 0, 3, (y, p) -> y.one(p, what));
        }
        for (int people = 0; people < 4; people++) {
            EveningFirst some = Checks.told(Checks.times(people, ONE));
            for (int p = 0; p < 4; p++) {
                Checks.due("one(" + p + ", 10) of " + people, some.one(p, 10), p < people ? 0 : -1);
            }
        }
        for (int what = 2; what < 10; what++) {
            Checks.due("one(0, " + what + ")", x.one(0, what), -1);
        }
        Checks.badOutside("one, what", Checks::rich, 0, 14, (y, what) -> y.one(2, what));
        for (int what : new int[] {2, 3, 8, 9, 15, 16, 17, 18, 20, 24}) {
            Checks.refused("one(2, " + what + ")", Checks::rich, y -> y.one(2, what), -1);
        }
        Checks.refused("one of nobody", EveningFirst::new, y -> y.one(0, 0), -1);
    }

    private static void rows() {
        Checks.says("0 forth: 0, 1, 2 .. 1 back: from the last one to 0. 2 other: the even ones as by forth, then the odd ones as by back.");
        String[] others = {"01", "021", "0231", "02431", "024531", "0246531", "02467531"};
        for (int hours = 2; hours <= 8; hours++) {
            EveningFirst x = Checks.told("hours " + hours + ";one forth;one back;one other;");
            String forth = "01234567".substring(0, hours);
            String[] rows = {forth, new StringBuilder(forth).reverse().toString(), others[hours - 2]};
            for (int p = 0; p < 3; p++) {
                for (int i = 0; i < 10; i++) {
                    Checks.due("one(" + p + ", 10 and " + i + ") of " + hours, x.one(p, 10 + i),
                            i < hours ? rows[p].charAt(i) - '0' : -1);
                }
                Checks.due("one(" + p + ", 9) of " + hours, x.one(p, 9), -1);
            }
        }
    }

    private static void deed() {
        Checks.says("Of a DEED: 0 HOUR, 1 who, 2 whom, 3 the THING, 4 THINGS it WANTS (bits), 5 MARK, 6 ODDS. BAD.");
        EveningFirst x = Checks.rich();
        int[][] told = {{1, 0, 1, 1, 1, 1, 10}, {0, 1, 0, 2, 2, 0, 4}, {3, 2, 2, 4, 0, 1, 5}, {2, 0, 1, 3, 16, 2, 9},
            {4, 1, 0, 4, 8, 0, 10}, {2, 3, 2, 0, 32, 2, 10}, {0, 2, 3, 1, 0, 0, 10}};
        for (int d = 0; d < 7; d++) {
            for (int what = 0; what < 7; what++) {
                Checks.due("deed(" + d + ", " + what + ")", x.deed(d, what), told[d][what]);
            }
        }
        Checks.badOutside("deed, what", Checks::rich, 0, 6, (y, what) -> y.deed(6, what));
        for (int what : new int[] {0, 5, 6}) {
            Checks.badOutside("deed(.., " + what + ")", Checks::rich, 0, 6, (y, d) -> y.deed(d, what));
        }
        for (int deeds = 0; deeds <= 8; deeds++) {
            EveningFirst some = Checks.told(ONE + Checks.times(deeds, DEED));
            for (int d = 0; d <= 8; d++) {
                Checks.due("deed(" + d + ", 6) of " + deeds, some.deed(d, 6), d < deeds ? 10 : -1);
            }
        }
        Checks.badOutside("deed of eight", BoundsOfChangesTest::full, 0, 7, (y, d) -> y.deed(d, 0));
        Checks.refused("deed of none", EveningFirst::new, y -> y.deed(0, 0), -1);
    }

    private static void go() {
        Checks.says("WAY of a ONE becomes w: what it was. BAD.");
        EveningFirst x = Checks.told(Checks.times(4, "one back;"));
        for (int p = 0; p < 4; p++) {
            int was = 1;
            for (int w : new int[] {0, 0, 1, 2, 2, 0, 2, 1}) {
                Checks.due("go(" + p + ", " + w + ")", x.go(p, w), was);
                Checks.due("one(" + p + ", 0)", x.one(p, 0), w);
                was = w;
            }
            Checks.due("the others' WAYS", x.one((p + 1) % 4, 0), 1);
        }
        Checks.badOutside("go, w", Checks::rich, 0, 2, (y, w) -> y.go(1, w));
        Checks.badOutside("go, p", Checks::rich, 0, 3, (y, p) -> y.go(p, 0));
        Checks.refused("go(2, 0) of two", BoundsOfChangesTest::full, y -> y.go(2, 0), -1);
        Checks.refused("go of nobody", EveningFirst::new, y -> y.go(0, 0), -1);
    }

    private static void birth() {
        Checks.says("THINGS at the beginning of a ONE become some (bits): which they were. BAD.");
        EveningFirst x = Checks.told(Checks.times(4, ONE));
        for (int p = 0; p < 4; p++) {
            int were = 0;
            for (int some = 0; some < 64; some++) {
                Checks.due("birth(" + p + ", " + some + ")", x.birth(p, some), were);
                were = some;
            }
            Checks.due("one(" + p + ", 1)", x.one(p, 1), 63);
        }
        Checks.badOutside("birth, some", Checks::rich, 0, 63, (y, some) -> y.birth(2, some));
        Checks.refused("birth(2, 128)", Checks::rich, y -> y.birth(2, 128), -1);
        Checks.badOutside("birth, p", Checks::rich, 0, 3, (y, p) -> y.birth(p, 7));
        Checks.refused("birth(2, 7) of two", BoundsOfChangesTest::full, y -> y.birth(2, 7), -1);
        Checks.refused("birth of nobody", EveningFirst::new, y -> y.birth(0, 0), -1);
    }

    private static void does() {
        Checks.says("A DEED more (WANTS bits; free, ODDS 10): how many there are. BAD; FULL.");
        int[][] good = {{0, 0, 0, 0, 0}, {4, 3, 3, 5, 63}, {0, 3, 0, 5, 1}, {4, 0, 3, 0, 32}};
        for (int[] a : good) {
            EveningFirst x = Checks.rich();
            Checks.due("does", x.does(a[0], a[1], a[2], a[3], a[4]), 8);
            for (int what = 0; what < 7; what++) {
                Checks.due("deed(7, " + what + ")", x.deed(7, what), what == 5 ? 0 : what == 6 ? 10 : a[what]);
            }
        }
        Checks.badOutside("does, h", Checks::rich, 0, 4, (y, h) -> y.does(h, 0, 0, 0, 0));
        Checks.badOutside("does, a", Checks::rich, 0, 3, (y, a) -> y.does(0, a, 0, 0, 0));
        Checks.badOutside("does, b", Checks::rich, 0, 3, (y, b) -> y.does(0, 0, b, 0, 0));
        Checks.badOutside("does, t", Checks::rich, 0, 5, (y, t) -> y.does(0, 0, 0, t, 0));
        Checks.badOutside("does, wants", Checks::rich, 0, 63, (y, wants) -> y.does(0, 0, 0, 0, wants));
        Checks.refused("does of nobody", EveningFirst::new, y -> y.does(0, 0, 0, 0, 0), -1);
        for (int hours = 2; hours <= 8; hours++) {
            EveningFirst x = Checks.told("hours " + hours + ";one back;");
            Checks.due("does in the last of " + hours, x.does(hours - 1, 0, 0, 0, 0), 1);
            Checks.due("does behind the last of " + hours, x.does(hours, 0, 0, 0, 0), -1);
        }
        for (int people = 1; people <= 4; people++) {
            EveningFirst x = Checks.told(Checks.times(people, ONE));
            Checks.due("does of the last of " + people, x.does(0, people - 1, people - 1, 0, 0), 1);
            Checks.due("does of no such who", x.does(0, people, 0, 0, 0), -1);
            Checks.due("does to no such whom", x.does(0, 0, people, 0, 0), -1);
        }
    }

    private static void doesFull() {
        Checks.says("DEEDS (8 at most, by order). A DEED more: BAD; FULL.");
        EveningFirst x = Checks.told(ONE);
        for (int d = 0; d < 8; d++) {
            Checks.due("does, the " + (d + 1) + "th", x.does(d % 4, 0, 0, d % 6, 0), d + 1);
            Checks.due("deed(" + d + ", 3), by order", x.deed(d, 3), d % 6);
        }
        Checks.due("does, the 9th", x.does(0, 0, 0, 0, 0), -3);
        Checks.due("rule(2)", x.rule(2), 8);
        Checks.refused("does, the 9th", BoundsOfChangesTest::full, y -> y.does(3, 1, 1, 5, 63), -3);
        Checks.says("the first that fits");
        Checks.refused("does, the 9th, h", BoundsOfChangesTest::full, y -> y.does(4, 0, 0, 0, 0), -1);
        Checks.refused("does, the 9th, a", BoundsOfChangesTest::full, y -> y.does(0, 2, 0, 0, 0), -1);
        Checks.refused("does, the 9th, b", BoundsOfChangesTest::full, y -> y.does(0, 0, 2, 0, 0), -1);
        Checks.refused("does, the 9th, t", BoundsOfChangesTest::full, y -> y.does(0, 0, 0, 6, 0), -1);
        Checks.refused("does, the 9th, wants", BoundsOfChangesTest::full, y -> y.does(0, 0, 0, 0, 64), -1);
        EveningFirst z = Checks.told(ONE);
        z.keep(0);
        for (int d = 0; d < 9; d++) {
            z.does(0, 0, 0, 0, 0);
        }
        z.mark(0, 2);
        z.odd(0, 0);
        z.back(0);
        Checks.due("does behind back()", z.does(1, 0, 0, 0, 0), 1);
        Checks.due("deed(0, 5), free", z.deed(0, 5), 0);
        Checks.due("deed(0, 6), ODDS 10", z.deed(0, 6), 10);
    }

    private static void shift() {
        Checks.says("HOUR of a DEED becomes h: what it was. BAD.");
        for (int hours = 2; hours <= 8; hours++) {
            EveningFirst x = Checks.told("hours " + hours + ";" + ONE + DEED);
            int was = 0;
            for (int h = hours - 1; h >= 0; h--) {
                Checks.due("shift(0, " + h + ") of " + hours, x.shift(0, h), was);
                Checks.due("deed(0, 0)", x.deed(0, 0), h);
                was = h;
            }
            Checks.due("shift(0, " + hours + ")", x.shift(0, hours), -1);
            Checks.due("shift(0, -1)", x.shift(0, -1), -1);
            Checks.due("deed(0, 0) behind them", x.deed(0, 0), 0);
        }
        Checks.badOutside("shift, h", Checks::rich, 0, 4, (y, h) -> y.shift(6, h));
        Checks.badOutside("shift, d", Checks::rich, 0, 6, (y, d) -> y.shift(d, 1));
        Checks.badOutside("shift, d of eight", BoundsOfChangesTest::full, 0, 7, (y, d) -> y.shift(d, 1));
        Checks.due("shift(7, 3) of eight", full().shift(7, 3), 0);
        Checks.refused("shift of none", EveningFirst::new, y -> y.shift(0, 0), -1);
    }

    private static void mark() {
        Checks.says("MARK of a DEED becomes m: what it was. BAD. A MARK of a DEED: 0 free, 1 must be, 2 must not be.");
        EveningFirst x = full();
        for (int d = 0; d < 8; d++) {
            int was = 0;
            for (int m : new int[] {0, 1, 1, 2, 2, 0, 2, 1, 0}) {
                Checks.due("mark(" + d + ", " + m + ")", x.mark(d, m), was);
                Checks.due("deed(" + d + ", 5)", x.deed(d, 5), m);
                Checks.due("count(0)", x.count(0), m == 1 ? 1 : 0);
                Checks.due("count(1)", x.count(1), m == 2 ? 1 : 0);
                was = m;
            }
        }
        Checks.badOutside("mark, m", Checks::rich, 0, 2, (y, m) -> y.mark(6, m));
        Checks.badOutside("mark, d", Checks::rich, 0, 6, (y, d) -> y.mark(d, 1));
        Checks.badOutside("mark, d of eight", BoundsOfChangesTest::full, 0, 7, (y, d) -> y.mark(d, 1));
        Checks.refused("mark of none", EveningFirst::new, y -> y.mark(0, 0), -1);
    }

    private static void odd() {
        Checks.says("ODDS of a DEED become v: what they were. BAD. ODDS of a DEED (0 to 10 tenths; 10 at first).");
        EveningFirst x = full();
        for (int d = 0; d < 8; d++) {
            int were = 10;
            for (int v = 0; v <= 10; v++) {
                Checks.due("odd(" + d + ", " + v + ")", x.odd(d, v), were);
                were = v;
            }
            Checks.due("deed(" + d + ", 6)", x.deed(d, 6), 10);
            Checks.due("odd(" + d + ", 0)", x.odd(d, 0), 10);
            Checks.due("deed(" + d + ", 6)", x.deed(d, 6), 0);
        }
        Checks.badOutside("odd, v", Checks::rich, 0, 10, (y, v) -> y.odd(1, v));
        Checks.badOutside("odd, d", Checks::rich, 0, 6, (y, d) -> y.odd(d, 1));
        Checks.badOutside("odd, d of eight", BoundsOfChangesTest::full, 0, 7, (y, d) -> y.odd(d, 1));
        Checks.refused("odd of none", EveningFirst::new, y -> y.odd(0, 0), -1);
    }
}
