/** The boundaries of promises 15 to 26: a day, all days, plans, odds. */
public final class BoundsOfDaysTest {
    private static final String ONE = "one forth;";
    private static final String DEED = "deed 0 0 0 0;";
    /** Each deed wants what the one an hour ahead gives: things 0 and 1 by turns; the first wants thing 1. */
    private static final String ROW = "hours 8;one forth;deed 0 0 0 0 1;deed 1 0 0 1 0;deed 2 0 0 0 1;deed 3 0 0 1 0;"
            + "deed 4 0 0 0 1;deed 5 0 0 1 0;deed 6 0 0 0 1;deed 7 0 0 1 0;";

    public static void main(String[] args) {
        has();
        earlier();
        hangs();
        lacks();
        days();
        daysNone();
        greatest();
        made();
        stop();
        reach();
        better();
        common();
        odds();
        oddsOfEight();
        luck();
        Checks.end("BoundsOfDaysTest");
    }

    private static EveningFirst eight() {
        return Checks.told(ONE + Checks.times(8, DEED));
    }

    private static EveningFirst nobody() {
        return new EveningFirst();
    }

    /** 0 and 1 want each other's gift, 2 wants nothing. */
    private static EveningFirst round() {
        return Checks.told("one forth;one back;deed 2 0 1 0 1;deed 1 1 0 1 0;deed 0 0 0 2;");
    }

    // ---- a day

    private static void has() {
        Checks.says("THINGS that a ONE HAS in an HOUR by a DAY (bits). BAD.");
        EveningFirst x = Checks.rich();
        Checks.due("has(0, 0, 0)", x.has(0, 0, 0), 1);
        Checks.due("has(3, 4, 127)", x.has(3, 4, 127), 34);
        Checks.due("has(3, 0, 127)", x.has(3, 0, 127), 32);
        Checks.badOutside("has, p", Checks::rich, 0, 3, (y, p) -> y.has(p, 0, 0));
        Checks.badOutside("has, h", Checks::rich, 0, 4, (y, h) -> y.has(0, h, 0));
        Checks.badOutside("has, day", Checks::rich, 0, 127, (y, day) -> y.has(0, 0, day));
        Checks.refused("has of nobody", BoundsOfDaysTest::nobody, y -> y.has(0, 0, 0), -1);
        for (int deeds = 0; deeds <= 8; deeds++) {
            EveningFirst y = Checks.told("one forth 5;" + Checks.times(deeds, DEED));
            int all = (1 << deeds) - 1;
            Checks.due("has(0, 0, 0) of " + deeds, y.has(0, 0, 0), 32);
            Checks.due("has(0, 3, all) of " + deeds, y.has(0, 3, all), deeds == 0 ? 32 : 33);
            Checks.due("has(0, 3, more) of " + deeds, y.has(0, 3, all + 1), -1);
            Checks.due("has(0, 3, twice as many) of " + deeds, y.has(0, 3, 2 * all + 1), -1);
            Checks.due("has(0, 3, -1) of " + deeds, y.has(0, 3, -1), -1);
        }
        EveningFirst y = Checks.told("hours 2;one other 0 1 2 3 4 5;deed 0 0 0 5;");
        Checks.due("has(0, 0, 0), all at his beginning", y.has(0, 0, 0), 63);
        Checks.due("has(0, 1, 1), once more", y.has(0, 1, 1), 63);
    }

    private static void earlier() {
        Checks.says("An HOUR is EARLIER for him than another one, if it comes ahead of it in his row.");
        for (int hours = 2; hours <= 8; hours++) {
            for (int way = 0; way < 3; way++) {
                EveningFirst x = Checks.told("hours " + hours + ";one forth;deed 0 0 0 5;");
                x.go(0, way);
                int[] row = new int[hours];
                for (int i = 0; i < hours; i++) {
                    row[i] = x.one(0, 10 + i);
                }
                for (int i = 0; i < hours; i++) {
                    x.shift(0, row[i]);
                    for (int j = 0; j < hours; j++) {
                        Checks.due("has at place " + j + " by a gift at place " + i + " of way " + way + ", HOURS " + hours,
                                x.has(0, row[j], 1), i < j ? 32 : 0);
                    }
                }
            }
        }
    }

    private static void hangs() {
        Checks.says("Whether a DAY HANGS TOGETHER (1, 0). BAD.");
        Checks.badOutside("hangs", Checks::rich, 0, 127, EveningFirst::hangs);
        Checks.badOutside("hangs of none", BoundsOfDaysTest::nobody, 0, 0, EveningFirst::hangs);
        Checks.badOutside("hangs of eight", BoundsOfDaysTest::eight, 0, 255, EveningFirst::hangs);
        Checks.due("hangs(0) of nobody", nobody().hangs(0), 1);
        EveningFirst x = eight();
        for (int day = 0; day < 256; day++) {
            Checks.due("hangs(" + day + ") of eight that want nothing", x.hangs(day), 1);
        }
        EveningFirst y = Checks.told(ROW);
        for (int n = 0; n <= 8; n++) {
            Checks.due("hangs, the first " + n, y.hangs((1 << n) - 1), n == 0 ? 1 : 0);
        }
        y.birth(0, 2);
        for (int n = 0; n <= 8; n++) {
            Checks.due("hangs, the first " + n + ", thing 1 at his beginning", y.hangs((1 << n) - 1), 1);
        }
        Checks.due("hangs, 1 wants what 0 gives", y.hangs(2), 0);
        Checks.says("if of each of its DEEDS the one who does it HAS in its HOUR all THINGS that it WANTS");
        EveningFirst z = Checks.told("hours 3;one forth;deed 1 0 0 0;deed 1 0 0 1 0;");
        Checks.due("hangs, given in the same HOUR", z.hangs(3), 0);
        z.shift(1, 2);
        Checks.due("hangs, given the HOUR ahead", z.hangs(3), 1);
        z.shift(1, 0);
        Checks.due("hangs, given the HOUR behind", z.hangs(3), 0);
        EveningFirst w = Checks.told("hours 3;one forth 0 1 2 3 4;one forth;deed 0 1 0 5;deed 2 0 0 0 0 1 2 3 4 5;");
        Checks.due("hangs, all six WANTED and HAD", w.hangs(3), 1);
        Checks.due("hangs, five of six HAD", w.hangs(2), 0);
        w.birth(0, 30);
        Checks.due("hangs, another five of six HAD", w.hangs(3), 0);
    }

    private static void lacks() {
        Checks.says("The first DEED of a DAY, by order, that WANTS what is not there (what 0), the first THING of these (1). "
                + "BAD; NONE: there is none.");
        Checks.badOutside("lacks, day", Checks::rich, 0, 127, (y, day) -> y.lacks(day, 0));
        Checks.badOutside("lacks, what", Checks::rich, 0, 1, (y, what) -> y.lacks(127, what));
        Checks.badOutside("lacks, day of none", BoundsOfDaysTest::nobody, 0, 0, (y, day) -> y.lacks(day, 1));
        Checks.refused("lacks(0, 0): NONE", Checks::rich, y -> y.lacks(0, 0), -4);
        Checks.refused("lacks(0, 1): NONE", Checks::rich, y -> y.lacks(0, 1), -4);
        Checks.says("the first that fits");
        Checks.refused("lacks(0, 2): BAD ahead of NONE", BoundsOfDaysTest::eight, y -> y.lacks(0, 2), -1);
        Checks.due("lacks(255, 0) of eight that want nothing", eight().lacks(255, 0), -4);
        EveningFirst x = Checks.told("one forth;" + Checks.times(7, DEED) + "deed 0 0 0 0 5;");
        Checks.due("lacks(255, 0), the last", x.lacks(255, 0), 7);
        Checks.due("lacks(255, 1), the last THING", x.lacks(255, 1), 5);
        Checks.due("lacks(127, 0), not in the DAY", x.lacks(127, 0), -4);
        EveningFirst y = Checks.told("one forth 1 3;deed 0 0 0 0 0 1;deed 0 0 0 0 1 2 3 4;deed 0 0 0 0 5;");
        Checks.due("lacks(7, 0), the first", y.lacks(7, 0), 0);
        Checks.due("lacks(7, 1), the first THING", y.lacks(7, 1), 0);
        Checks.due("lacks(6, 0)", y.lacks(6, 0), 1);
        Checks.due("lacks(6, 1): 1 is there, 2 is not", y.lacks(6, 1), 2);
        Checks.due("lacks(4, 1)", y.lacks(4, 1), 5);
    }

    // ---- all days

    private static void allDays(String when, EveningFirst x, int... due) {
        for (int what = 0; what < 5; what++) {
            Checks.due("days(" + what + "), " + when, x.days(what), due[what]);
        }
    }

    private static void days() {
        Checks.says("DAYS that are ALLOWED: how many (what 0), the least (1), the greatest by number (2), DEEDS in all (3; bits), "
                + "in none (4; bits). BAD; NONE (1 to 4): there is none.");
        Checks.badOutside("days", Checks::rich, 0, 4, EveningFirst::days);
        Checks.badOutside("days of nobody", BoundsOfDaysTest::nobody, 0, 4, EveningFirst::days);
        allDays("no DEEDS", nobody(), 1, 0, 0, 0, 0);
        EveningFirst x = eight();
        allDays("eight that want nothing", x, 256, 0, 255, 0, 0);
        x.mark(7, 1);
        allDays("the last must be", x, 128, 128, 255, 128, 0);
        x.mark(0, 2);
        allDays("the first must not be", x, 64, 128, 254, 128, 1);
        for (int d = 0; d < 8; d++) {
            x.mark(d, 1);
        }
        allDays("all must be", x, 1, 255, 255, 255, 0);
        for (int d = 0; d < 8; d++) {
            x.mark(d, 2);
        }
        allDays("none may be", x, 1, 0, 0, 0, 255);
        EveningFirst y = Checks.told(ROW);
        allDays("a row that lacks its beginning", y, 1, 0, 0, 0, 255);
        y.birth(0, 2);
        // a deed of an odd hour wants one of an even hour ahead of it, those of even hours want nothing that is not there:
        // by two hours more, days with one of an even hour become 4 times as many and 2 more: 2, 10, 42, 170; and the empty one
        allDays("a row", y, 171, 0, 255, 0, 0);
    }

    private static void daysNone() {
        Checks.says("DAYS that are ALLOWED: NONE (1 to 4): there is none.");
        EveningFirst y = Checks.told(ROW);
        y.mark(7, 1);
        allDays("what must be can not be", y, 0, -4, -4, -4, -4);
        y.mark(7, 0);
        allDays("it need not be", y, 1, 0, 0, 0, 255);
        y.birth(0, 2);
        y.mark(1, 1);
        y.mark(0, 2);
        allDays("what must be wants what must not be", y, 0, -4, -4, -4, -4);
        Checks.refused("days(1): NONE", () -> {
            EveningFirst z = Checks.rich();
            z.mark(3, 1);
            return z;
        }, z -> z.days(1), -4);
    }

    private static void greatest() {
        Checks.says("THE GREATEST is the one with all DEEDS that are in some DAY that HANGS TOGETHER without any that must not be");
        Checks.due("greatest() of nobody", nobody().greatest(), 0);
        EveningFirst x = eight();
        Checks.due("greatest() of eight", x.greatest(), 255);
        Checks.due("count(6) of eight", x.count(6), 8);
        for (int d = 0; d < 8; d++) {
            x.mark(d, 2);
            Checks.due("greatest(), the first must not be", x.greatest(), 255 & -2 << d);
        }
        EveningFirst y = Checks.told(ROW);
        Checks.due("greatest() of a row that lacks its beginning", y.greatest(), 0);
        y.birth(0, 2);
        Checks.due("greatest() of a row", y.greatest(), 255);
        y.birth(0, 0);
        y.shift(0, 7);
        Checks.due("greatest() of a row, the first put last", y.greatest(), 0);
        EveningFirst z = round();
        Checks.due("greatest() with those that go round", z.greatest(), 7);
        z.mark(1, 2);
        Checks.due("greatest() without one of them", z.greatest(), 4);
        z.mark(1, 1);
        z.mark(0, 2);
        Checks.due("greatest(), what must be can not be", z.greatest(), 4);
    }

    private static void allMade(String when, EveningFirst x, int... due) {
        for (int what = 0; what < 3; what++) {
            Checks.due("made(" + what + "), " + when, x.made(what), due[what]);
        }
    }

    private static void made() {
        Checks.says("DEEDS that are MADE (what 0; bits), that GO ROUND (1; bits), in how many steps they are MADE (2). BAD.");
        Checks.badOutside("made", Checks::rich, 0, 2, EveningFirst::made);
        Checks.badOutside("made of nobody", BoundsOfDaysTest::nobody, 0, 2, EveningFirst::made);
        allMade("no DEEDS", nobody(), 0, 0, 0);
        allMade("eight in one step", eight(), 255, 0, 1);
        EveningFirst x = Checks.told(ROW);
        allMade("a row that lacks its beginning", x, 0, 0, 0);
        x.birth(0, 2);
        // those of even hours want nothing that is not there, the others want one of them
        allMade("two steps", x, 255, 0, 2);
        EveningFirst y = Checks.told("hours 8;one back;one forth;deed 0 0 1 0;deed 1 1 0 0 0;deed 0 0 1 1 0;deed 1 1 0 1 1;"
                + "deed 0 0 1 2 1;deed 1 1 0 2 2;deed 0 0 1 3 2;");
        allMade("seven steps", y, 127, 0, 7);
        y.does(1, 1, 0, 3, 8);
        allMade("eight steps", y, 255, 0, 8);
        EveningFirst z = round();
        allMade("two go round", z, 4, 3, 1);
        z.mark(2, 2);
        allMade("all go round", z, 0, 3, 0);
        z.birth(0, 2);
        allMade("none goes round, what is WANTED is there", z, 3, 0, 2);
        z.birth(0, 0);
        z.mark(0, 2);
        allMade("none is left", z, 0, 0, 0);
        EveningFirst w = Checks.told("hours 2;one forth;one back;deed 1 0 1 0 0;" + Checks.times(7, "deed 0 1 0 0 0;"));
        allMade("all eight go round", w, 0, 255, 0);
    }

    private static void stop() {
        Checks.says("The DEED that must not be (all else as it is) so that fewest DEEDS GO ROUND then, fewer than now, "
                + "of several the first (what 0), how many do then (1). BAD; NONE: by none.");
        Checks.badOutside("stop", BoundsOfDaysTest::round, 0, 1, EveningFirst::stop);
        Checks.badOutside("stop: BAD ahead of NONE", BoundsOfDaysTest::nobody, 0, 1, EveningFirst::stop);
        for (int what = 0; what < 2; what++) {
            int half = what;
            Checks.refused("stop of no DEEDS: NONE", BoundsOfDaysTest::nobody, y -> y.stop(half), -4);
            Checks.refused("stop, none goes round: NONE", BoundsOfDaysTest::eight, y -> y.stop(half), -4);
            Checks.refused("stop by itself", BoundsOfDaysTest::round, y -> y.stop(half), 0);
        }
        EveningFirst w = Checks.told("hours 2;one forth;one back;" + Checks.times(7, "deed 0 1 0 0 0;") + "deed 1 0 1 0 0;");
        Checks.due("stop(0): the last, seven go round by it", w.stop(0), 7);
        Checks.due("stop(1)", w.stop(1), 0);
        w.mark(6, 2);
        w.shift(7, 0);
        Checks.due("stop(0), none goes round", w.stop(0), -4);
        EveningFirst x = Checks.told("hours 2;one forth;one back;deed 1 0 1 0 0;deed 0 1 0 0 0;deed 1 0 1 1 1;deed 0 1 0 1 1;");
        Checks.due("made(1)", x.made(1), 15);
        Checks.due("stop(0), of several the first", x.stop(0), 0);
        Checks.due("stop(1), two of four do then", x.stop(1), 2);
        x.mark(0, 1);
        Checks.due("stop(0), that it must be does not keep it from that", x.stop(0), 0);
        x.mark(0, 2);
        Checks.due("stop(0), the other two", x.stop(0), 2);
        Checks.due("stop(1), none of two does then", x.stop(1), 0);
        x.mark(3, 2);
        Checks.due("stop(0), none is left", x.stop(0), -4);
        // 1 and 2 are MADE by 0; without it they would go round
        EveningFirst z = Checks.told("hours 3;one forth;one back;deed 0 0 0 1;deed 2 0 1 0 1;deed 1 1 0 1 0;");
        Checks.due("made(1), all are MADE", z.made(1), 0);
        Checks.due("stop(0), none goes round now", z.stop(0), -4);
        z.does(2, 0, 1, 2, 8);
        z.does(1, 1, 0, 3, 4);
        Checks.due("made(1), the last two", z.made(1), 24);
        Checks.due("stop(0), not the one by which more do", z.stop(0), 3);
        Checks.due("stop(1)", z.stop(1), 0);
    }

    // ---- plans

    private static void reach() {
        Checks.says("The fewest DEEDS of an ALLOWED DAY by which a ONE HAS a THING in an HOUR (what 0), of such DAYS the least (1). "
                + "BAD; NONE: there is none.");
        Checks.badOutside("reach, p", Checks::rich, 0, 3, (y, p) -> y.reach(p, 0, 0, 0));
        Checks.badOutside("reach, t", Checks::rich, 0, 5, (y, t) -> y.reach(0, t, 0, 0));
        Checks.badOutside("reach, h", Checks::rich, 0, 4, (y, h) -> y.reach(0, 0, h, 0));
        Checks.badOutside("reach, what", Checks::rich, 0, 1, (y, what) -> y.reach(0, 0, 0, what));
        Checks.refused("reach of nobody", BoundsOfDaysTest::nobody, y -> y.reach(0, 0, 0, 0), -1);
        Checks.refused("reach: NONE", Checks::rich, y -> y.reach(0, 5, 4, 0), -4);
        Checks.refused("reach: NONE", Checks::rich, y -> y.reach(0, 5, 4, 1), -4);
        Checks.refused("reach: BAD ahead of NONE", Checks::rich, y -> y.reach(0, 5, 4, 2), -1);
        EveningFirst x = Checks.told("hours 8;one forth 5;deed 0 0 0 0;deed 1 0 0 1 0;deed 2 0 0 2 1;deed 3 0 0 3 2;"
                + "deed 4 0 0 4 3;deed 5 0 0 0 4;deed 6 0 0 0;deed 6 0 0 1;");
        Checks.due("reach(0, 5, 0, 0), by none", x.reach(0, 5, 0, 0), 0);
        Checks.due("reach(0, 5, 0, 1), by none", x.reach(0, 5, 0, 1), 0);
        Checks.due("reach(0, 0, 0, 0), in the HOUR of the gift", x.reach(0, 0, 0, 0), -4);
        Checks.due("reach(0, 0, 1, 0), in the next", x.reach(0, 0, 1, 0), 1);
        for (int t = 0; t < 5; t++) {
            Checks.due("reach(0, " + t + ", 6, 0)", x.reach(0, t, 6, 0), t + 1);
            Checks.due("reach(0, " + t + ", 6, 1)", x.reach(0, t, 6, 1), (2 << t) - 1);
        }
        Checks.due("reach(0, 1, 7, 0), by one that wants nothing", x.reach(0, 1, 7, 0), 1);
        Checks.due("reach(0, 1, 7, 1), by one that wants nothing", x.reach(0, 1, 7, 1), 128);
        Checks.due("reach(0, 0, 7, 1), of several the least", x.reach(0, 0, 7, 1), 1);
        x.mark(0, 2);
        Checks.due("reach(0, 0, 7, 1), without what must not be", x.reach(0, 0, 7, 1), 64);
        for (int d = 0; d < 8; d++) {
            x.mark(d, 1);
        }
        Checks.due("reach(0, 5, 0, 0), all must be", x.reach(0, 5, 0, 0), 8);
        Checks.due("reach(0, 5, 0, 1), all must be", x.reach(0, 5, 0, 1), 255);
        x.shift(0, 7);
        Checks.due("reach(0, 5, 0, 0), no DAY is ALLOWED", x.reach(0, 5, 0, 0), -4);
        Checks.due("reach(0, 5, 0, 1), no DAY is ALLOWED", x.reach(0, 5, 0, 1), -4);
    }

    private static void better() {
        Checks.says("The HOUR to which a DEED is to be put so that THE GREATEST has most DEEDS, more than now, of several the first "
                + "(what 0), how many it has then (1). BAD; NONE: none has more.");
        Checks.badOutside("better, d", Checks::rich, 0, 6, (y, d) -> y.better(d, 0));
        Checks.badOutside("better, what", Checks::rich, 0, 1, (y, what) -> y.better(0, what));
        Checks.refused("better of no DEEDS", BoundsOfDaysTest::nobody, y -> y.better(0, 0), -1);
        Checks.badOutside("better, d of eight", BoundsOfDaysTest::eight, 0, 7, (y, d) -> y.better(d, 0));
        Checks.refused("better: NONE", BoundsOfDaysTest::eight, y -> y.better(7, 0), -4);
        Checks.refused("better: NONE", BoundsOfDaysTest::eight, y -> y.better(7, 1), -4);
        Checks.refused("better: BAD ahead of NONE", BoundsOfDaysTest::eight, y -> y.better(7, 2), -1);
        for (int hours = 2; hours <= 8; hours++) {
            // by forth the giver must come first of all, by back last of all
            int last = hours - 1;
            int of = hours;
            EveningFirst x = Checks.told("hours " + hours + ";one forth;deed " + last + " 0 0 0;deed 1 0 0 1 0;");
            Checks.due("better(0, 0), the first of " + hours, x.better(0, 0), 0);
            Checks.due("better(0, 1), the first of " + hours, x.better(0, 1), 2);
            EveningFirst y = Checks.told("hours " + hours + ";one back;deed 0 0 0 0;deed " + (last - 1) + " 0 0 1 0;");
            Checks.due("better(0, 0), the last of " + hours, y.better(0, 0), last);
            Checks.due("better(0, 1), the last of " + hours, y.better(0, 1), 2);
            Checks.refused("better(0, 0) by itself, of " + hours,
                    () -> Checks.told("hours " + of + ";one back;deed 0 0 0 0;deed " + (last - 1) + " 0 0 1 0;"),
                    z -> z.better(0, 0), last);
            y.shift(0, last);
            Checks.due("better(0, 0), it is there now", y.better(0, 0), -4);
            Checks.due("better(0, 1), it is there now", y.better(0, 1), -4);
        }
        EveningFirst z = Checks.told("hours 5;one forth;deed 4 0 0 0;deed 2 0 0 1 0;deed 3 0 0 2 0;");
        Checks.due("better(0, 0), of several the first", z.better(0, 0), 0);
        Checks.due("better(0, 1), most", z.better(0, 1), 3);
        Checks.due("better(1, 0), none has more", z.better(1, 0), -4);
        z.shift(0, 2);
        Checks.due("better(0, 0), three are more than two", z.better(0, 0), 0);
        z.shift(0, 1);
        Checks.due("better(0, 0), three are not more than three", z.better(0, 0), -4);
        z.mark(0, 2);
        Checks.due("better(0, 0), it must not be", z.better(0, 0), -4);
    }

    private static void common() {
        Checks.says("HOURS in which both of two HAVE a THING by THE GREATEST (bits). BAD (also alike).");
        Checks.badOutside("common, p", Checks::rich, 0, 3, (y, p) -> y.common(p, 0, 0));
        Checks.badOutside("common, q", Checks::rich, 0, 3, (y, q) -> y.common(0, q, 0));
        Checks.badOutside("common, t", Checks::rich, 0, 5, (y, t) -> y.common(0, 1, t));
        for (int p = 0; p < 4; p++) {
            int same = p;
            Checks.refused("common of " + p + " and " + p, Checks::rich, y -> y.common(same, same, 0), -1);
        }
        Checks.refused("common of nobody", BoundsOfDaysTest::nobody, y -> y.common(0, 1, 0), -1);
        Checks.refused("common of one", BoundsOfDaysTest::eight, y -> y.common(0, 1, 0), -1);
        for (int hours = 2; hours <= 8; hours++) {
            EveningFirst x = Checks.told("hours " + hours + ";one forth 0;one back 0 5;");
            Checks.due("common, in all of " + hours, x.common(0, 1, 0), (1 << hours) - 1);
            Checks.due("common, the other way", x.common(1, 0, 0), (1 << hours) - 1);
            Checks.due("common, one of two", x.common(0, 1, 5), 0);
            Checks.due("common, none of two", x.common(0, 1, 4), 0);
            x.does(0, 0, 0, 5, 0);
            Checks.due("common, behind HOUR 0", x.common(0, 1, 5), (1 << hours) - 2);
            x.shift(0, hours - 1);
            Checks.due("common, given in the last HOUR", x.common(0, 1, 5), 0);
            x.shift(0, hours - 2);
            Checks.due("common, given in the last but one", x.common(0, 1, 5), 1 << hours - 1);
            x.mark(0, 2);
            Checks.due("common, it must not be", x.common(0, 1, 5), 0);
        }
    }

    // ---- odds

    private static void fraction(String when, EveningFirst x, long over, long under) {
        Checks.due("odds(0), " + when, x.odds(0), over);
        Checks.due("odds(1), " + when, x.odds(1), under);
    }

    private static long divisor(long a, long b) {
        return b == 0 ? a : divisor(b, a % b);
    }

    private static void odds() {
        Checks.says("Each DEED (those that must be for sure, those that must not be never) being done by its ODDS, by itself: "
                + "that the DAY HANGS TOGETHER: 0, 1. BAD.");
        Checks.badOutside("odds", Checks::rich, 0, 1, EveningFirst::odds);
        Checks.badOutside("odds of nobody", BoundsOfDaysTest::nobody, 0, 1, EveningFirst::odds);
        Checks.says("Fractions are in lowest terms, the denominator above 0 (0 is 0 by 1).");
        fraction("no DEEDS", nobody(), 1, 1);
        EveningFirst x = Checks.told("one forth;deed 0 0 0 0 1;");
        for (int v = 0; v <= 10; v++) {
            x.odd(0, v);
            long common = divisor(10, 10 - v);
            fraction("one that lacks, by " + v + " tenths", x, (10 - v) / common, 10 / common);
            x.mark(0, 1);
            fraction("it must be", x, 0, 1);
            x.mark(0, 2);
            fraction("it must not be", x, 1, 1);
            x.mark(0, 0);
            x.birth(0, 2);
            fraction("one that lacks nothing, by " + v + " tenths", x, 1, 1);
            x.birth(0, 0);
        }
    }

    private static void oddsOfEight() {
        Checks.says("Fractions are in lowest terms, the denominator above 0 (0 is 0 by 1).");
        for (int v = 0; v <= 10; v++) {
            EveningFirst x = Checks.told("one forth;" + Checks.times(8, "deed 0 0 0 0 1;"));
            long over = 1;
            long under = 1;
            for (int d = 0; d < 8; d++) {
                x.odd(d, v);
                over *= 10 - v;
                under *= 10;
            }
            long common = divisor(under, over);
            fraction("eight that lack, by " + v + " tenths", x, over / common, under / common);
            x.birth(0, 2);
            fraction("eight that lack nothing, by " + v + " tenths", x, 1, 1);
            Checks.due("luck(0, 0, 1, 0), some of eight, by " + v, x.luck(0, 0, 1, 0), (under - over) / divisor(under, under - over));
            Checks.due("luck(0, 0, 1, 1), some of eight, by " + v, x.luck(0, 0, 1, 1), under / divisor(under, under - over));
        }
    }

    private static void luck() {
        Checks.says("Likewise, that it HANGS TOGETHER and a ONE HAS a THING in an HOUR: 0, 1. BAD.");
        Checks.badOutside("luck, p", Checks::rich, 0, 3, (y, p) -> y.luck(p, 0, 0, 0));
        Checks.badOutside("luck, t", Checks::rich, 0, 5, (y, t) -> y.luck(0, t, 0, 0));
        Checks.badOutside("luck, h", Checks::rich, 0, 4, (y, h) -> y.luck(0, 0, h, 0));
        Checks.badOutside("luck, what", Checks::rich, 0, 1, (y, what) -> y.luck(0, 0, 0, what));
        Checks.refused("luck of nobody", BoundsOfDaysTest::nobody, y -> y.luck(0, 0, 0, 0), -1);
        EveningFirst x = Checks.told("hours 3;one forth 5;deed 1 0 0 0;odds 0 4;");
        int[] over = {0, 0, 2};
        int[] under = {1, 1, 5};
        for (int h = 0; h < 3; h++) {
            Checks.due("luck(0, 0, " + h + ", 0)", x.luck(0, 0, h, 0), over[h]);
            Checks.due("luck(0, 0, " + h + ", 1)", x.luck(0, 0, h, 1), under[h]);
            Checks.due("luck(0, 5, " + h + ", 0), at his beginning", x.luck(0, 5, h, 0), 1);
            Checks.due("luck(0, 5, " + h + ", 1), at his beginning", x.luck(0, 5, h, 1), 1);
            Checks.due("luck(0, 4, " + h + ", 0), never", x.luck(0, 4, h, 0), 0);
            Checks.due("luck(0, 4, " + h + ", 1), never", x.luck(0, 4, h, 1), 1);
        }
        x.mark(0, 1);
        Checks.due("luck(0, 0, 2, 0), for sure", x.luck(0, 0, 2, 0), 1);
        Checks.due("luck(0, 0, 2, 1), for sure", x.luck(0, 0, 2, 1), 1);
        x.mark(0, 2);
        Checks.due("luck(0, 0, 2, 0), never", x.luck(0, 0, 2, 0), 0);
        Checks.due("luck(0, 0, 2, 1), never", x.luck(0, 0, 2, 1), 1);
        x.mark(0, 0);
        x.does(2, 0, 0, 1, 1);
        x.odd(1, 5);
        // neither, the first alone, both: 6 by 5 of 10, 4 by 5, 4 by 5; the second alone does not hang together
        Checks.due("luck(0, 5, 0, 0), that it hangs together", x.luck(0, 5, 0, 0), 7);
        Checks.due("luck(0, 5, 0, 1), that it hangs together", x.luck(0, 5, 0, 1), 10);
    }
}
