/** The boundaries of promises 27 to 32: what was seen, deeds by a seed, images. */
public final class BoundsOfSeenTest {
    private static final String ONE = "one forth;";
    private static final String DEED = "deed 0 0 0 0;";

    public static void main(String[] args) {
        see();
        forget();
        ways();
        waysOfAll();
        waysNone();
        walk();
        walkBySeeds();
        keep();
        back();
        imagesOfAll();
        Checks.end("BoundsOfSeenTest");
    }

    private static EveningFirst nobody() {
        return new EveningFirst();
    }

    /** Each of four is given a THING of his own in HOUR 1. Forth he has it in 2, back in 0, other (0 2 3 1) in no HOUR. */
    private static EveningFirst four() {
        return Checks.told(Checks.times(4, ONE) + "deed 1 0 0 2;deed 1 0 1 3;deed 1 0 2 4;deed 1 0 3 5;");
    }

    private static EveningFirst eightSeen() {
        EveningFirst x = four();
        for (int p = 0; p < 4; p++) {
            x.see(p, p + 2, 2, false);
            x.see(p, p + 2, 0, false);
        }
        return x;
    }

    // ---- seen

    private static void see() {
        Checks.says("SEEN: one more: how many are. BAD; FULL. SEEN (8).");
        int[][] good = {{0, 0, 0}, {3, 5, 4}, {0, 5, 0}, {3, 0, 4}};
        for (int[] a : good) {
            EveningFirst x = Checks.rich();
            Checks.due("see", x.see(a[0], a[1], a[2], true), 3);
            Checks.due("see", x.see(a[0], a[1], a[2], false), 4);
            Checks.due("count(2)", x.count(2), 4);
        }
        Checks.badOutside("see, p", Checks::rich, 0, 3, (y, p) -> y.see(p, 0, 0, true));
        Checks.badOutside("see, t", Checks::rich, 0, 5, (y, t) -> y.see(0, t, 0, false));
        Checks.badOutside("see, h", Checks::rich, 0, 4, (y, h) -> y.see(0, 0, h, true));
        Checks.refused("see of nobody", BoundsOfSeenTest::nobody, y -> y.see(0, 0, 0, true), -1);
        EveningFirst x = four();
        for (int i = 1; i <= 8; i++) {
            Checks.due("see, the " + i + "th", x.see(0, 0, 0, true), i);
        }
        Checks.due("see, the 9th", x.see(0, 0, 0, true), -3);
        Checks.due("count(2)", x.count(2), 8);
        Checks.refused("see, the 9th", BoundsOfSeenTest::eightSeen, y -> y.see(0, 2, 2, true), -3);
        Checks.says("the first that fits");
        Checks.refused("see, the 9th, p", BoundsOfSeenTest::eightSeen, y -> y.see(4, 0, 0, true), -1);
        Checks.refused("see, the 9th, t", BoundsOfSeenTest::eightSeen, y -> y.see(0, 6, 0, true), -1);
        Checks.refused("see, the 9th, h", BoundsOfSeenTest::eightSeen, y -> y.see(0, 0, 4, true), -1);
    }

    private static void forget() {
        Checks.says("SEEN are the first n alone: how many there were. BAD.");
        for (int n = 0; n <= 8; n++) {
            EveningFirst x = eightSeen();
            Checks.due("forget(" + n + ") of 8", x.forget(n), 8);
            Checks.due("count(2)", x.count(2), n);
            Checks.due("forget(" + n + ") again", x.forget(n), n);
            if (n < 8) {
                Checks.due("see behind it", x.see(0, 0, 0, true), n + 1);
            }
            int most = n;
            Checks.badOutside("forget of " + n, () -> {
                EveningFirst y = eightSeen();
                y.forget(most);
                return y;
            }, 0, n, EveningFirst::forget);
        }
        Checks.badOutside("forget", Checks::rich, 0, 2, EveningFirst::forget);
        Checks.due("forget(0) of none", nobody().forget(0), 0);
        // which ones they are is seen by the WAYS that fit: two sights for each ONE, in their order
        int[] fitting = {81, 54, 27, 18, 9, 6, 3, 2, 1};
        EveningFirst x = eightSeen();
        for (int n = 8; n >= 0; n--) {
            x.forget(n);
            Checks.due("ways(0), the first " + n, x.ways(0), fitting[n]);
        }
    }

    private static void ways() {
        Checks.says("WAYS of all that FIT: how many (what 0); the first (1; ..); 10 and p: WAYS that a ONE can have by them (bits). BAD; NONE (1): there is none.");
        int[] many = {1, 3, 9, 27, 81};
        for (int people = 0; people <= 4; people++) {
            EveningFirst x = Checks.told(Checks.times(people, "one other;"));
            Checks.due("ways(0) of " + people, x.ways(0), many[people]);
            Checks.due("ways(1) of " + people, x.ways(1), 0);
            for (int p = 0; p < 5; p++) {
                Checks.due("ways(10 and " + p + ") of " + people, x.ways(10 + p), p < people ? 7 : -1);
            }
            for (int what : new int[] {Integer.MIN_VALUE, -10, -1, 2, 3, 9, 15, 20, 266, 65546, Integer.MAX_VALUE}) {
                Checks.due("ways(" + what + ") of " + people, x.ways(what), -1);
            }
        }
        Checks.badOutside("ways", Checks::rich, 0, 13, EveningFirst::ways);
        for (int what = 2; what < 10; what++) {
            int no = what;
            Checks.refused("ways(" + what + ")", Checks::rich, y -> y.ways(no), -1);
        }
        Checks.refused("ways(12) of two", () -> Checks.told(ONE + ONE), y -> y.ways(12), -1);
        Checks.refused("ways(0) by itself", BoundsOfSeenTest::eightSeen, y -> y.ways(0), 1);
        Checks.refused("ways(13) by itself", BoundsOfSeenTest::eightSeen, y -> y.ways(13), 4);
    }

    private static void waysOfAll() {
        Checks.says("the first (1; 27 times that of ONE 3, 9 of 2, 3 of 1, and that of 0); 10 and p: WAYS that a ONE can have by them (bits)");
        EveningFirst x = eightSeen();
        Checks.due("ways(1), all go the third way", x.ways(1), 80);
        for (int p = 0; p < 4; p++) {
            Checks.due("ways(10 and " + p + ")", x.ways(10 + p), 4);
        }
        int[] unit = {1, 3, 9, 27};
        for (int p = 0; p < 4; p++) {
            for (int w = 0; w < 3; w++) {
                EveningFirst y = four();
                y.see(p, p + 2, 2, w == 0);
                y.see(p, p + 2, 0, w == 1);
                Checks.due("ways(0), " + p + " goes by " + w, y.ways(0), 27);
                Checks.due("ways(1), " + p + " goes by " + w, y.ways(1), w * unit[p]);
                for (int q = 0; q < 4; q++) {
                    Checks.due("ways(10 and " + q + "), " + p + " goes by " + w, y.ways(10 + q), q == p ? 1 << w : 7);
                }
            }
        }
        x.forget(7);
        Checks.due("ways(0), the last may go back", x.ways(0), 2);
        Checks.due("ways(1), the last may go back", x.ways(1), 53);
        Checks.due("ways(13), the last may go back", x.ways(13), 6);
    }

    private static void waysNone() {
        Checks.says("WAYS of all that FIT: NONE (1): there is none.");
        EveningFirst x = four();
        x.see(3, 5, 2, true);
        Checks.due("ways(1), one is seen", x.ways(1), 0);
        x.see(3, 5, 2, false);
        Checks.due("ways(0), none", x.ways(0), 0);
        Checks.due("ways(1), none", x.ways(1), -4);
        for (int p = 0; p < 4; p++) {
            Checks.due("ways(10 and " + p + "), none", x.ways(10 + p), 0);
        }
        Checks.due("ways(14), none", x.ways(14), -1);
        Checks.due("ways(2), none", x.ways(2), -1);
        Checks.refused("ways(1), none", () -> {
            EveningFirst y = Checks.rich();
            y.see(0, 0, 0, false);
            return y;
        }, y -> y.ways(1), -4);
        x.forget(1);
        Checks.due("ways(1), it is forgotten", x.ways(1), 0);
        x.mark(3, 2);
        Checks.due("ways(1), by THE GREATEST without what must not be", x.ways(1), -4);
    }

    // ---- by a seed

    private static void walk() {
        Checks.says("By itself, n times (1 to 60) a DEED by a seed: BAD; STATE: there are none.");
        Checks.badOutside("walk, n", Checks::rich, 1, 60, (y, n) -> y.walk(1, n));
        Checks.refused("walk of no DEEDS, n 1", BoundsOfSeenTest::nobody, y -> y.walk(1, 1), -2);
        Checks.refused("walk of no DEEDS, n 60", () -> Checks.told(ONE), y -> y.walk(1, 60), -2);
        Checks.says("the first that fits");
        Checks.badOutside("walk of no DEEDS", BoundsOfSeenTest::nobody, 1, 60, (y, n) -> y.walk(1, n));
        Checks.says("By itself, n times (1 to 60) a DEED by a seed");
        Checks.refused("walk(0, 1) by itself", () -> Checks.told(ONE + DEED + DEED), y -> y.walk(0, 1), 1);
        for (int n = 1; n <= 60; n++) {
            Checks.due("walk(7, " + n + "), the only one", Checks.told(ONE + DEED).walk(7, n), 1);
        }
    }

    /** Which of many deeds come, by numbers without a wrap-around. */
    private static int come(int seed, int n, int many) {
        java.math.BigInteger s = java.math.BigInteger.valueOf(seed);
        int bits = 0;
        for (int i = 0; i < n; i++) {
            s = s.multiply(java.math.BigInteger.valueOf(1103515245)).add(java.math.BigInteger.valueOf(12345));
            bits |= 1 << s.shiftRight(16).mod(java.math.BigInteger.valueOf(32768)).intValue() % many;
        }
        return bits;
    }

    private static void walkBySeeds() {
        Checks.says("the seed becomes seed times 1103515245 and 12345; bits 16 to 30 of it modulo DEEDS");
        int[] seeds = {0, 1, 2, -1, -2, 12345, 65535, 65536, 1 << 30, Integer.MAX_VALUE, Integer.MAX_VALUE - 1,
            Integer.MIN_VALUE, Integer.MIN_VALUE + 1};
        for (int many = 1; many <= 8; many++) {
            EveningFirst x = Checks.told(ONE + Checks.times(many, DEED));
            for (int seed : seeds) {
                for (int n : new int[] {1, 2, 3, 5, 59, 60}) {
                    Checks.due("walk(" + seed + ", " + n + ") of " + many, x.walk(seed, n), come(seed, n, many));
                }
            }
        }
        Checks.says("it is done, if what it WANTS is HAD by those that were done before (none at first), and it is not one that must not be");
        EveningFirst y = Checks.told("one forth;deed 0 0 0 0;deed 1 0 0 1 0;");
        // by seed 1: 16838, 5758, 10113 .. : 0, 0, 1
        Checks.due("walk(1, 1)", y.walk(1, 1), 1);
        Checks.due("walk(1, 2)", y.walk(1, 2), 1);
        Checks.due("walk(1, 3)", y.walk(1, 3), 3);
        y.mark(0, 1);
        Checks.due("walk(1, 3), that it must be is all the same", y.walk(1, 3), 3);
        y.mark(0, 2);
        Checks.due("walk(1, 3), the first must not be", y.walk(1, 3), 0);
        y.birth(0, 1);
        Checks.due("walk(1, 3), what is WANTED is there at his beginning", y.walk(1, 3), 2);
        y.mark(1, 2);
        Checks.due("walk(1, 60), none may be", y.walk(1, 60), 0);
        EveningFirst z = Checks.told("hours 2;one forth;one back;deed 1 0 1 0 0;deed 0 1 0 0 0;");
        Checks.due("walk(1, 60): those that go round never begin", z.walk(1, 60), 0);
        Checks.due("walk(1, 1) once more: none at first", Checks.told("one forth;deed 0 0 0 0;deed 1 0 0 1 0;").walk(1, 1), 1);
    }

    // ---- images

    private static void keep() {
        Checks.says("IMAGE k (0, 1) is PEOPLE (WAYS, THINGS at their beginning), DEEDS, what was SEEN: whether there was one (1, 0). BAD.");
        EveningFirst x = nobody();
        Checks.due("keep(0)", x.keep(0), 0);
        Checks.due("count(3)", x.count(3), 1);
        Checks.due("keep(1)", x.keep(1), 0);
        Checks.due("count(3)", x.count(3), 2);
        Checks.due("keep(0) again", x.keep(0), 1);
        Checks.due("keep(1) again", x.keep(1), 1);
        Checks.due("count(3)", x.count(3), 2);
        Checks.badOutside("keep", Checks::rich, 0, 1, EveningFirst::keep);
        Checks.badOutside("keep of nobody", BoundsOfSeenTest::nobody, 0, 1, EveningFirst::keep);
        EveningFirst y = Checks.rich();
        Checks.due("keep(0), there was one", y.keep(0), 1);
        Checks.due("keep(1), there was none", y.keep(1), 0);
        x.text();
        Checks.due("keep(0) behind a text", x.keep(0), 0);
    }

    private static void back() {
        Checks.says("All is as IMAGE k: how many DEEDS. BAD; STATE: there is none.");
        Checks.badOutside("back", Checks::rich, 0, 1, EveningFirst::back);
        Checks.badOutside("back, BAD ahead of STATE", BoundsOfSeenTest::nobody, 0, 1, EveningFirst::back);
        Checks.refused("back(0) of a new object", BoundsOfSeenTest::nobody, y -> y.back(0), -2);
        Checks.refused("back(1) of a new object", BoundsOfSeenTest::nobody, y -> y.back(1), -2);
        Checks.refused("back(1), only IMAGE 0 is there", Checks::rich, y -> y.back(1), -2);
        EveningFirst x = Checks.rich();
        Checks.due("back(0)", x.back(0), 5);
        Checks.due("rule(0)", x.rule(0), 5);
        Checks.due("rule(2)", x.rule(2), 5);
        Checks.due("one(3, 0)", x.one(3, 0), 1);
        Checks.due("one(1, 1)", x.one(1, 1), 0);
        Checks.due("deed(2, 6)", x.deed(2, 6), 10);
        Checks.due("deed(2, 5)", x.deed(2, 5), 0);
        Checks.due("deed(5, 0)", x.deed(5, 0), -1);
        Checks.due("count(2)", x.count(2), 1);
        Checks.due("count(3): it stays", x.count(3), 1);
        Checks.due("count(4): THE TAPE is none of it", x.count(4), 14);
        Checks.due("count(5): SHEETS are none of it", x.count(5), 6);
        Checks.due("fault() is none of it", x.fault(), 3);
        Checks.due("torn() is none of it", x.torn(), 2);
        x.does(0, 0, 0, 0, 0);
        x.go(0, 2);
        x.mark(0, 2);
        x.forget(0);
        Checks.due("back(0) once more", x.back(0), 5);
        Checks.due("one(0, 0)", x.one(0, 0), 0);
        Checks.due("deed(0, 5)", x.deed(0, 5), 1);
        Checks.due("count(2)", x.count(2), 1);
        x.end(0);
        Checks.feed(x, "?");
        x.text();
        Checks.due("back(0) behind a text that is refused", x.back(0), 5);
        x.text();
        Checks.due("back(0) behind a text that is taken", x.back(0), -2);
    }

    private static void imagesOfAll() {
        Checks.says("All is as IMAGE k: how many DEEDS.");
        EveningFirst x = nobody();
        x.keep(0);
        Checks.due("back(0), no DEEDS", x.back(0), 0);
        EveningFirst y = Checks.told(Checks.times(4, ONE) + Checks.times(8, DEED));
        for (int i = 0; i < 8; i++) {
            y.mark(i, i % 3);
            y.odd(i, i);
            y.see(i / 2, i % 6, i % 4, i % 2 == 0);
        }
        y.keep(1);
        for (int i = 0; i < 8; i++) {
            y.mark(i, 0);
            y.odd(i, 10);
            y.shift(i, 3);
        }
        for (int p = 0; p < 4; p++) {
            y.go(p, 2);
            y.birth(p, 63);
        }
        y.forget(0);
        y.keep(0);
        Checks.due("back(1), eight DEEDS", y.back(1), 8);
        Checks.due("count(2), eight SEEN", y.count(2), 8);
        Checks.due("does, FULL again", y.does(0, 0, 0, 0, 0), -3);
        Checks.due("see, FULL again", y.see(0, 0, 0, true), -3);
        for (int i = 0; i < 8; i++) {
            Checks.due("deed(" + i + ", 5)", y.deed(i, 5), i % 3);
            Checks.due("deed(" + i + ", 6)", y.deed(i, 6), i);
            Checks.due("deed(" + i + ", 0)", y.deed(i, 0), 0);
        }
        for (int p = 0; p < 4; p++) {
            Checks.due("one(" + p + ", 0)", y.one(p, 0), 0);
            Checks.due("one(" + p + ", 1)", y.one(p, 1), 0);
        }
        Checks.due("ways(0), what was SEEN is so again", y.ways(0), 0);
        Checks.due("back(0), the other one", y.back(0), 8);
        Checks.due("deed(7, 0)", y.deed(7, 0), 3);
        Checks.due("deed(7, 6)", y.deed(7, 6), 10);
        Checks.due("one(3, 1)", y.one(3, 1), 63);
        Checks.due("count(2), nothing SEEN", y.count(2), 0);
        Checks.due("ways(0)", y.ways(0), 81);
        EveningFirst z = eightSeen();
        z.keep(1);
        z.forget(0);
        for (int i = 0; i < 8; i++) {
            z.see(0, 0, 3, false);
        }
        Checks.due("ways(0), of other eight SEEN", z.ways(0), 81);
        z.back(1);
        Checks.due("ways(0), of the eight SEEN again", z.ways(0), 1);
        Checks.due("ways(1), of the eight SEEN again", z.ways(1), 80);
    }
}
