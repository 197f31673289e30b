import java.util.function.ToLongFunction;

/**
 * Sentences of the document, from its first line on, that had no test of their own: what is answered, and what
 * later calls show afterwards. All is worked out by hand.
 */
public final class SentencesTest {
    /**
     * Forth he gives himself 0 and by it gives the other 1, who goes back and by it gives 2:
     * the days are 0, 1, 3, 7 (bits).
     */
    private static final String ROW = "hours 3;one forth;one back;deed 0 0 0 0;deed 2 0 1 1 0;deed 1 1 0 2 1;";

    public static void main(String[] args) {
        the512thCall();
        constants();
        aNewObject();
        byOrder();
        gives();
        wants();
        hasByADay();
        allowed();
        goShows();
        birthShows();
        doesShows();
        shiftShows();
        markShows();
        oddShows();
        readShows();
        askingChangesNothing();
        walkByItself();
        seenIsByNow();
        imagesAreCopies();
        backIsAll();
        sheetsStay();
        sheetsAreOfTheirOwn();
        Checks.end("SentencesTest");
    }

    // ---- what it is, the face

    /** 66 calls; and as many that only ask as make it 511. */
    private static EveningFirst behind511() {
        EveningFirst x = new EveningFirst();
        String words = "hours 3;one forth 0;one back;deed 2 0 1 1 0;deed 0 1 0 2 1;";
        Checks.feed(x, words);
        x.text();
        x.odd(1, 5);
        x.keep(0);
        x.see(0, 2, 1, true);
        x.sheet(0, 0, 2);
        x.lay(0, 0, 1);
        x.feed('x');
        for (int calls = words.length() + 7; calls < 511; calls++) {
            x.torn();
        }
        return x;
    }

    private static void last(String name, ToLongFunction<EveningFirst> call, long want) {
        Checks.due(name + ", the 512th call", call.applyAsLong(behind511()), want);
    }

    private static void the512thCall() {
        Checks.says("An object is used for at most 512 calls after it has been made; what later calls answer is free.");
        last("feed(32)", x -> x.feed(32), 2);
        last("end(0)", x -> x.end(0), 1);
        last("text()", EveningFirst::text, -10);
        last("fault()", EveningFirst::fault, 0);
        last("rule(2)", x -> x.rule(2), 2);
        last("one(1, 10)", x -> x.one(1, 10), 2);
        last("deed(1, 6)", x -> x.deed(1, 6), 5);
        last("go(1, 2)", x -> x.go(1, 2), 1);
        last("birth(0, 3)", x -> x.birth(0, 3), 1);
        last("does(1, 0, 0, 3, 0)", x -> x.does(1, 0, 0, 3, 0), 3);
        last("shift(0, 1)", x -> x.shift(0, 1), 2);
        last("mark(0, 1)", x -> x.mark(0, 1), 0);
        last("odd(1, 10)", x -> x.odd(1, 10), 5);
        last("has(0, 2, 3)", x -> x.has(0, 2, 3), 5);
        last("hangs(3)", x -> x.hangs(3), 1);
        last("lacks(2, 0)", x -> x.lacks(2, 0), 1);
        last("days(0)", x -> x.days(0), 3);
        last("greatest()", EveningFirst::greatest, 3);
        last("made(2)", x -> x.made(2), 2);
        last("stop(0)", x -> x.stop(0), -4);
        last("reach(0, 2, 2, 1)", x -> x.reach(0, 2, 2, 1), 3);
        last("better(1, 0)", x -> x.better(1, 0), -4);
        last("common(0, 1, 2)", x -> x.common(0, 1, 2), 0);
        last("odds(0)", x -> x.odds(0), 1);
        last("luck(0, 2, 2, 1)", x -> x.luck(0, 2, 2, 1), 2);
        last("see(1, 1, 0, true)", x -> x.see(1, 1, 0, true), 2);
        last("forget(0)", x -> x.forget(0), 1);
        // he has 2 in HOUR 1 if the other goes back and he forth or other (0 2 1)
        last("ways(0)", x -> x.ways(0), 2);
        last("walk(1, 3)", x -> x.walk(1, 3), 3);
        last("keep(0)", x -> x.keep(0), 1);
        last("back(0)", x -> x.back(0), 2);
        last("sheet(1, 2, 40)", x -> x.sheet(1, 2, 40), 1);
        last("lay(0, 1, 2)", x -> x.lay(0, 1, 2), 1);
        last("read(0, 0, 0, 1)", x -> x.read(0, 0, 0, 1), 1);
        last("torn()", EveningFirst::torn, 0);
        last("count(2)", x -> x.count(2), 1);
    }

    /** Only a constant of the compiler can stand behind case. */
    private static String nameOf(int answer) {
        switch (answer) {
            case EveningFirst.BAD: return "BAD";
            case EveningFirst.STATE: return "STATE";
            case EveningFirst.FULL: return "FULL";
            case EveningFirst.NONE: return "NONE";
            default: return "";
        }
    }

    private static void named(String call, long answer, String want) {
        Checks.due(call + " answers " + want, nameOf((int) answer).equals(want) ? 1 : 0, 1);
    }

    private static void constants() {
        Checks.says("Answers: BAD -1, STATE -2, FULL -3, NONE -4");
        EveningFirst x = new EveningFirst();
        named("rule(3)", x.rule(3), "BAD");
        named("back(0)", x.back(0), "STATE");
        named("walk(1, 1)", x.walk(1, 1), "STATE");
        named("count(5)", x.count(5), "NONE");
        named("stop(0)", x.stop(0), "NONE");
        named("odds(2)", x.odds(2), "BAD");
        for (int i = 0; i < 160; i++) {
            x.feed(' ');
        }
        named("feed(32)", x.feed(32), "FULL");
    }

    private static void aNewObject() {
        Checks.says("Four HOURS, nobody, no DEEDS; SHEETS of nothing.");
        Checks.refused("what is done with another object", EveningFirst::new, x -> Checks.rich().rule(2), 7);
        Checks.refused("what is done with another object", Checks::rich, x -> {
            EveningFirst y = Checks.rich();
            y.sheet(0, 2, 9);
            y.keep(1);
            y.go(0, 1);
            return y.back(0);
        }, 5);
    }

    // ---- people and deeds

    private static void byOrder() {
        Checks.says("PEOPLE (4 at most, by order). DEEDS (8 at most, by order). text: { line }");
        EveningFirst x = Checks.taken("deed 1 1 0 0;one back 3;must 1;deed 0 0 1 5 2;hours 2;one other;odds 0 4;", 7);
        Checks.due("rule(0)", x.rule(0), 2);
        int[][] people = {{1, 8}, {2, 0}};
        int[][] deeds = {{1, 1, 0, 0, 0, 0, 4}, {0, 0, 1, 5, 4, 1, 10}};
        for (int i = 0; i < 2; i++) {
            for (int what = 0; what < 2; what++) {
                Checks.due("one(" + i + ", " + what + ")", x.one(i, what), people[i][what]);
            }
            for (int what = 0; what < 7; what++) {
                Checks.due("deed(" + i + ", " + what + ")", x.deed(i, what), deeds[i][what]);
            }
        }
        Checks.due("does(..), behind those told", x.does(1, 0, 0, 2, 1), 3);
        Checks.due("deed(2, 3)", x.deed(2, 3), 2);
        Checks.due("deed(1, 3), as it was", x.deed(1, 3), 5);
    }

    private static void had(EveningFirst x, int p, int day, int... byHour) {
        for (int h = 0; h < byHour.length; h++) {
            Checks.due("has(" + p + ", " + h + ", " + day + ")", x.has(p, h, day), byHour[h]);
        }
    }

    private static void gives() {
        Checks.says("in an HOUR a ONE gives another one (or himself) a THING");
        EveningFirst x = Checks.told("hours 3;one forth 0;one forth;deed 0 0 1 0;deed 1 1 1 1;deed 0 1 0 5;");
        // who gives keeps what he has, and need not have what he gives
        had(x, 0, 7, 1, 33, 33);
        had(x, 1, 7, 0, 1, 3);
        Checks.due("hangs(7), none lacks what he gives", x.hangs(7), 1);
        Checks.due("lacks(7, 0)", x.lacks(7, 0), -4);
        Checks.due("does, the same THING once more", x.does(1, 0, 1, 0, 0), 4);
        had(x, 1, 15, 0, 1, 3);
        had(x, 1, 10, 0, 0, 3);
        had(x, 1, 8, 0, 0, 1);
    }

    private static void wants() {
        Checks.says("and WANTS some THINGS for it (bits)");
        EveningFirst x = Checks.told("hours 3;one forth 2;one back;deed 0 0 1 0 2;deed 0 0 1 1 2;deed 1 1 0 3 2;");
        Checks.due("hangs(3), what is WANTED is not used up", x.hangs(3), 1);
        had(x, 0, 3, 4, 4, 4);
        Checks.due("hangs(4), whom it is given has it, who gives has not", x.hangs(4), 0);
        Checks.due("lacks(7, 0)", x.lacks(7, 0), 2);
        Checks.due("lacks(7, 1)", x.lacks(7, 1), 2);
        x.does(2, 0, 1, 2, 4);
        Checks.due("hangs(15), now he has it earlier on his way", x.hangs(15), 1);
        Checks.due("lacks(7, 0), not in this DAY", x.lacks(7, 0), 2);
    }

    // ---- days

    private static void hasByADay() {
        Checks.says("By a DAY a ONE HAS a THING in an HOUR, if he has it at his beginning, or if in an HOUR EARLIER for him some DEED "
                + "of the DAY gives it to him.");
        EveningFirst x = Checks.told("hours 3;one forth;deed 0 0 0 4 5;never 0;odds 0 0;");
        // it lacks, must not be and is never done by odds: by a DAY that has it, he HAS what it gives
        had(x, 0, 1, 0, 16, 16);
        had(x, 0, 0, 0, 0, 0);
        Checks.due("hangs(1)", x.hangs(1), 0);
        Checks.due("lacks(1, 1)", x.lacks(1, 1), 5);
        x.birth(0, 32);
        had(x, 0, 1, 32, 48, 48);
        Checks.due("hangs(1), though it must not be", x.hangs(1), 1);
        Checks.due("lacks(1, 0)", x.lacks(1, 0), -4);
        Checks.due("greatest(), since it must not be", x.greatest(), 0);
        Checks.due("days(0)", x.days(0), 1);
        EveningFirst y = Checks.told("hours 4;one forth;one back;one other;deed 1 0 0 3;deed 1 0 1 3;deed 1 0 2 3;");
        // EARLIER is by the row of whom it is given: 0 1 2 3, 3 2 1 0, 0 2 3 1
        had(y, 0, 7, 0, 0, 8, 8);
        had(y, 1, 7, 8, 0, 0, 0);
        had(y, 2, 7, 0, 0, 0, 0);
        y.shift(2, 2);
        had(y, 2, 7, 0, 8, 0, 8);
    }

    private static void allDays(String when, EveningFirst x, int... due) {
        for (int what = 0; what < 5; what++) {
            Checks.due("days(" + what + "), " + when, x.days(what), due[what]);
        }
    }

    private static void allowed() {
        Checks.says("A DAY is ALLOWED, if it HANGS TOGETHER, has all DEEDS that must be, none that must not be.");
        EveningFirst x = Checks.told("one forth;deed 0 0 0 0;deed 1 0 0 1 0;deed 2 0 0 2;");
        int[] hang = {1, 1, 0, 1, 1, 1, 0, 1};
        for (int day = 0; day < 8; day++) {
            Checks.due("hangs(" + day + ")", x.hangs(day), hang[day]);
        }
        allDays("that HANG TOGETHER", x, 6, 0, 7, 0, 0);
        x.mark(2, 1);
        allDays("that have what must be", x, 3, 4, 7, 4, 0);
        x.mark(0, 2);
        allDays("and not what must not be", x, 1, 4, 4, 4, 3);
        x.mark(1, 1);
        allDays("and what wants it", x, 0, -4, -4, -4, -4);
        for (int day = 0; day < 8; day++) {
            Checks.due("hangs(" + day + "), by MARKS all the same", x.hangs(day), hang[day]);
        }
        x.mark(0, 1);
        allDays("all must be", x, 1, 7, 7, 7, 0);
    }

    // ---- what later calls show of a change

    /** What follows of a family: DAYS that are ALLOWED, THE GREATEST, steps, DEEDS by a seed, the odds. */
    private static void follows(String when, EveningFirst x, int days, int greatest, int steps, int walked, int over, int under) {
        Checks.due("days(0), " + when, x.days(0), days);
        Checks.due("greatest(), " + when, x.greatest(), greatest);
        Checks.due("count(6), " + when, x.count(6), Integer.bitCount(greatest));
        Checks.due("made(2), " + when, x.made(2), steps);
        Checks.due("walk(1, 60), " + when, x.walk(1, 60), walked);
        Checks.due("odds(0), " + when, x.odds(0), over);
        Checks.due("odds(1), " + when, x.odds(1), under);
    }

    private static EveningFirst row() {
        EveningFirst x = Checks.told(ROW);
        follows("as told", x, 4, 7, 3, 7, 1, 1);
        Checks.due("reach(0, 2, 2, 0), as told", x.reach(0, 2, 2, 0), 3);
        Checks.due("reach(0, 2, 2, 1), as told", x.reach(0, 2, 2, 1), 7);
        Checks.due("luck(0, 2, 2, 0), as told", x.luck(0, 2, 2, 0), 1);
        had(x, 0, 7, 0, 1, 5);
        had(x, 1, 7, 2, 2, 0);
        return x;
    }

    private static void goShows() {
        Checks.says("WAY of a ONE becomes w: what it was.");
        EveningFirst x = row();
        Checks.due("go(0, 1)", x.go(0, 1), 0);
        follows("he goes back", x, 2, 1, 1, 1, 0, 1);
        had(x, 0, 7, 4, 0, 0);
        Checks.due("lacks(7, 0)", x.lacks(7, 0), 1);
        Checks.due("lacks(7, 1)", x.lacks(7, 1), 0);
        Checks.due("reach(0, 2, 2, 0)", x.reach(0, 2, 2, 0), -4);
        Checks.due("luck(0, 2, 2, 0)", x.luck(0, 2, 2, 0), 0);
        Checks.due("better(0, 0), nothing is ahead of his HOUR 2", x.better(0, 0), -4);
        Checks.due("go(0, 2)", x.go(0, 2), 1);
        follows("he goes other: 0 2 1", x, 4, 7, 3, 7, 1, 1);
        had(x, 0, 7, 0, 1, 1);
        Checks.due("reach(0, 2, 2, 0)", x.reach(0, 2, 2, 0), -4);
        Checks.due("go(1, 0)", x.go(1, 0), 1);
        follows("the other goes forth", x, 3, 3, 2, 3, 0, 1);
        Checks.due("better(1, 0), no HOUR is between", x.better(1, 0), -4);
        Checks.due("better(2, 0), nothing is behind HOUR 2", x.better(2, 0), -4);
        Checks.due("go(1, 1)", x.go(1, 1), 0);
        Checks.due("go(0, 0)", x.go(0, 0), 2);
        follows("as at first", x, 4, 7, 3, 7, 1, 1);
    }

    private static void birthShows() {
        Checks.says("THINGS at the beginning of a ONE become some (bits): which they were.");
        EveningFirst x = row();
        Checks.due("birth(1, 2)", x.birth(1, 2), 0);
        follows("he has what the last one wants", x, 6, 7, 2, 7, 1, 1);
        had(x, 1, 0, 2, 2, 2);
        Checks.due("reach(0, 2, 2, 0)", x.reach(0, 2, 2, 0), 1);
        Checks.due("reach(0, 2, 2, 1)", x.reach(0, 2, 2, 1), 4);
        Checks.due("birth(0, 2)", x.birth(0, 2), 0);
        Checks.due("common(0, 1, 1)", x.common(0, 1, 1), 7);
        Checks.due("birth(1, 0)", x.birth(1, 0), 2);
        Checks.due("common(0, 1, 1), he has it in 0 and 1 by a gift", x.common(0, 1, 1), 3);
        Checks.due("birth(0, 0)", x.birth(0, 0), 2);
        follows("as at first", x, 4, 7, 3, 7, 1, 1);
    }

    private static void doesShows() {
        Checks.says("A DEED more (WANTS bits; free, ODDS 10): how many there are.");
        EveningFirst x = row();
        Checks.due("does(2, 1, 1, 5, 0)", x.does(2, 1, 1, 5, 0), 4);
        Checks.due("days(0)", x.days(0), 8);
        Checks.due("days(2)", x.days(2), 15);
        Checks.due("greatest()", x.greatest(), 15);
        Checks.due("made(2)", x.made(2), 3);
        had(x, 1, 15, 34, 34, 0);
        Checks.due("hangs(8)", x.hangs(8), 1);
        Checks.due("hangs(16)", x.hangs(16), -1);
        Checks.due("odds(1)", x.odds(1), 1);
        Checks.due("does(0, 1, 1, 4, 1)", x.does(0, 1, 1, 4, 1), 5);
        Checks.due("greatest(), he never has 0", x.greatest(), 15);
        Checks.due("days(4)", x.days(4), 16);
        Checks.due("lacks(31, 0)", x.lacks(31, 0), 4);
        Checks.due("lacks(31, 1)", x.lacks(31, 1), 0);
        Checks.due("odds(0), it is done for sure", x.odds(0), 0);
        Checks.due("odds(1)", x.odds(1), 1);
    }

    private static void shiftShows() {
        Checks.says("HOUR of a DEED becomes h: what it was.");
        EveningFirst x = row();
        Checks.due("shift(0, 2)", x.shift(0, 2), 0);
        follows("given too late", x, 2, 1, 1, 1, 0, 1);
        had(x, 0, 7, 0, 0, 4);
        Checks.due("better(0, 0), two HOURS do, the first", x.better(0, 0), 0);
        Checks.due("better(0, 1)", x.better(0, 1), 3);
        Checks.due("better(1, 0)", x.better(1, 0), -4);
        Checks.due("shift(0, 1)", x.shift(0, 1), 2);
        follows("given in time", x, 4, 7, 3, 7, 1, 1);
        had(x, 0, 7, 0, 0, 5);
        Checks.due("better(0, 0)", x.better(0, 0), -4);
        Checks.due("shift(2, 2)", x.shift(2, 2), 1);
        follows("the last one wants too early", x, 3, 3, 2, 3, 0, 1);
        Checks.due("better(2, 0)", x.better(2, 0), 0);
        Checks.due("better(2, 1)", x.better(2, 1), 3);
    }

    private static void markShows() {
        Checks.says("MARK of a DEED becomes m: what it was.");
        EveningFirst x = row();
        Checks.due("mark(1, 2)", x.mark(1, 2), 0);
        follows("the second must not be", x, 2, 1, 1, 1, 0, 1);
        Checks.due("reach(0, 2, 2, 0)", x.reach(0, 2, 2, 0), -4);
        Checks.due("count(1)", x.count(1), 1);
        x.odd(2, 3);
        Checks.due("odds(0), the third is not done", x.odds(0), 7);
        Checks.due("odds(1), the third is not done", x.odds(1), 10);
        Checks.due("mark(1, 1)", x.mark(1, 1), 2);
        follows("it must be", x, 2, 7, 3, 7, 1, 1);
        Checks.due("days(1)", x.days(1), 3);
        Checks.due("reach(0, 0, 1, 0), with what must be", x.reach(0, 0, 1, 0), 2);
        Checks.due("reach(0, 0, 1, 1), with what must be", x.reach(0, 0, 1, 1), 3);
        Checks.due("count(0)", x.count(0), 1);
        Checks.due("mark(1, 0)", x.mark(1, 0), 1);
        follows("it is free", x, 4, 7, 3, 7, 1, 1);
        Checks.due("reach(0, 0, 1, 0)", x.reach(0, 0, 1, 0), 1);
    }

    private static void oddShows() {
        Checks.says("ODDS of a DEED become v: what they were.");
        EveningFirst x = row();
        Checks.due("odd(0, 5)", x.odd(0, 5), 10);
        // all but the odds are as they were
        follows("the first by 5 tenths", x, 4, 7, 3, 7, 1, 2);
        Checks.due("luck(0, 2, 2, 0)", x.luck(0, 2, 2, 0), 1);
        Checks.due("luck(0, 2, 2, 1)", x.luck(0, 2, 2, 1), 2);
        Checks.due("odd(1, 0)", x.odd(1, 0), 10);
        follows("the second never", x, 4, 7, 3, 7, 0, 1);
        Checks.due("odd(2, 0)", x.odd(2, 0), 10);
        follows("nor the third", x, 4, 7, 3, 7, 1, 1);
        Checks.due("luck(0, 0, 1, 0)", x.luck(0, 0, 1, 0), 1);
        Checks.due("luck(0, 0, 1, 1)", x.luck(0, 0, 1, 1), 2);
        Checks.due("odd(2, 4)", x.odd(2, 4), 0);
        follows("the third by 4 tenths", x, 4, 7, 3, 7, 3, 5);
    }

    private static void readShows() {
        Checks.says("MARKS (DEED, MARK) are read of a SHEET taken as of a lane, as by mark()");
        for (int lane = 0; lane < 3; lane++) {
            EveningFirst x = row();
            Checks.lay(x, 3, lane, 1, 2, 0, 1, 7);
            Checks.due("read", x.read(3, lane, 0, 1), 1);
            follows("the second must not be", x, 2, 1, 1, 1, 0, 1);
            Checks.due("read, torn behind the second", x.read(3, lane, 0, 3), 2);
            Checks.due("days(1)", x.days(1), 1);
            Checks.due("days(0)", x.days(0), 1);
            Checks.due("count(0)", x.count(0), 1);
            x.lay(3, 1, 0);
            Checks.due("read", x.read(3, lane, 0, 1), 1);
            Checks.due("days(0)", x.days(0), 3);
            Checks.due("greatest()", x.greatest(), 7);
        }
    }

    // ---- what only asks

    private static void asks(String name, ToLongFunction<EveningFirst> call) {
        Checks.refused(name + " only asks", Checks::rich, call, call.applyAsLong(Checks.rich()));
    }

    private static void askingChangesNothing() {
        Checks.says("Nothing is promised beyond the answers and state changes described above");
        asks("fault()", EveningFirst::fault);
        asks("rule(0)", x -> x.rule(0));
        asks("one(2, 14)", x -> x.one(2, 14));
        asks("deed(4, 4)", x -> x.deed(4, 4));
        asks("has(0, 4, 127)", x -> x.has(0, 4, 127));
        asks("hangs(127)", x -> x.hangs(127));
        asks("lacks(127, 0)", x -> x.lacks(127, 0));
        asks("days(2)", x -> x.days(2));
        asks("greatest()", EveningFirst::greatest);
        asks("made(2)", x -> x.made(2));
        asks("stop(0)", x -> x.stop(0));
        asks("reach(0, 2, 4, 1)", x -> x.reach(0, 2, 4, 1));
        asks("better(3, 0)", x -> x.better(3, 0));
        asks("better(0, 1)", x -> x.better(0, 1));
        asks("common(0, 1, 1)", x -> x.common(0, 1, 1));
        asks("odds(0)", x -> x.odds(0));
        asks("luck(0, 2, 4, 1)", x -> x.luck(0, 2, 4, 1));
        asks("ways(0)", x -> x.ways(0));
        asks("ways(1)", x -> x.ways(1));
        asks("ways(12)", x -> x.ways(12));
        asks("walk(7, 60)", x -> x.walk(7, 60));
        asks("torn()", EveningFirst::torn);
        for (int what = 0; what < 7; what++) {
            int of = what;
            asks("count(" + what + ")", x -> x.count(of));
        }
    }

    private static void walkByItself() {
        Checks.says("By itself, n times a DEED by a seed: those that were done before (none at first)");
        EveningFirst x = Checks.told("one forth;deed 0 0 0 0;deed 1 0 0 1 0;");
        // by seed 1 come 0, 0, 1
        Checks.due("walk(1, 60)", x.walk(1, 60), 3);
        Checks.due("walk(1, 1), none at first again", x.walk(1, 1), 1);
        Checks.due("walk(1, 2)", x.walk(1, 2), 1);
        Checks.due("walk(1, 3)", x.walk(1, 3), 3);
        Checks.due("greatest()", x.greatest(), 3);
        x.shift(0, 1);
        Checks.due("walk(1, 60), the second lacks", x.walk(1, 60), 1);
        x.birth(0, 1);
        Checks.due("walk(1, 60), it lacks nothing", x.walk(1, 60), 3);
    }

    private static void seenIsByNow() {
        Checks.says("SEEN (8): whether a ONE HAS a THING in an HOUR, by THE GREATEST. WAYS of all PEOPLE FIT, if by them (all else as it "
                + "is; THE GREATEST by them) all that was SEEN is so.");
        EveningFirst x = row();
        Checks.due("see(0, 2, 2, true)", x.see(0, 2, 2, true), 1);
        // 2 is given in HOUR 1, which is ahead of 2 by forth alone; the other must go back to have 1 in HOUR 1, or
        // other (0 2 1)
        Checks.due("ways(0)", x.ways(0), 2);
        Checks.due("ways(1)", x.ways(1), 3);
        Checks.due("ways(10)", x.ways(10), 1);
        Checks.due("ways(11)", x.ways(11), 6);
        x.go(0, 1);
        Checks.due("ways(0), by which he goes is all the same", x.ways(0), 2);
        x.birth(1, 2);
        Checks.due("ways(0), the other needs no gift", x.ways(0), 3);
        Checks.due("ways(11)", x.ways(11), 7);
        x.mark(2, 2);
        Checks.due("ways(0), it must not be", x.ways(0), 0);
        Checks.due("ways(1)", x.ways(1), -4);
        Checks.due("see(0, 2, 0, false)", x.see(0, 2, 0, false), 2);
        x.mark(2, 0);
        x.shift(2, 0);
        // given in HOUR 0, it is ahead of 2 by forth and other (0 2 1), and not had in 0
        Checks.due("ways(0), by another HOUR", x.ways(0), 6);
        Checks.due("ways(10)", x.ways(10), 5);
        x.birth(0, 4);
        Checks.due("ways(0), he has it from his beginning", x.ways(0), 0);
        Checks.due("forget(1)", x.forget(1), 2);
        Checks.due("ways(0), that he has it not is forgotten", x.ways(0), 9);
    }

    // ---- images, sheets

    private static void imagesAreCopies() {
        Checks.says("IMAGE k (0, 1) is PEOPLE (WAYS, THINGS at their beginning), DEEDS, what was SEEN");
        EveningFirst x = row();
        x.keep(0);
        x.mark(1, 2);
        x.keep(1);
        x.go(0, 1);
        Checks.due("back(1)", x.back(1), 3);
        follows("as IMAGE 1", x, 2, 1, 1, 1, 0, 1);
        x.odd(0, 1);
        Checks.due("back(0)", x.back(0), 3);
        follows("as IMAGE 0", x, 4, 7, 3, 7, 1, 1);
        x.shift(0, 2);
        Checks.due("back(0), once more", x.back(0), 3);
        follows("as IMAGE 0, once more", x, 4, 7, 3, 7, 1, 1);
        Checks.due("keep(1), in place of the other", x.keep(1), 1);
        x.mark(0, 2);
        Checks.due("back(1)", x.back(1), 3);
        follows("as IMAGE 1 now", x, 4, 7, 3, 7, 1, 1);
    }

    private static EveningFirst keptTwice() {
        EveningFirst x = Checks.rich();
        x.keep(1);
        return x;
    }

    private static void backIsAll() {
        Checks.says("All is as IMAGE k: how many DEEDS.");
        Checks.refused("what is changed ahead of back(1)", SentencesTest::keptTwice, x -> {
            for (int d = 0; d < 7; d++) {
                x.shift(d, 4);
                x.mark(d, 1);
                x.odd(d, 1);
            }
            x.does(1, 1, 1, 1, 1);
            for (int p = 0; p < 4; p++) {
                x.go(p, 0);
                x.birth(p, 21);
            }
            x.forget(0);
            x.see(3, 3, 3, true);
            return x.back(1);
        }, 7);
    }

    private static void marks(EveningFirst x, String when, int... due) {
        for (int d = 0; d < due.length; d++) {
            Checks.due("deed(" + d + ", 5), " + when, x.deed(d, 5), due[d]);
        }
    }

    private static void sheetsStay() {
        Checks.says("SHEETS 0 to 3 are rows. A text that is taken tells all; IMAGES are gone. All is as IMAGE k.");
        EveningFirst x = row();
        Checks.lay(x, 1, 2, 2, 1, 0, 2);
        x.keep(0);
        x.feed(' ');
        x.back(0);
        Checks.due("count(4), THE TAPE is as it was", x.count(4), 1);
        Checks.due("read behind back()", x.read(1, 2, 0, 2), 2);
        marks(x, "behind back()", 2, 0, 1);
        Checks.feed(x, ROW);
        Checks.due("text()", x.text(), 6);
        marks(x, "behind a text", 0, 0, 0);
        Checks.due("read behind a text", x.read(1, 2, 0, 2), 2);
        marks(x, "read again", 2, 0, 1);
        Checks.feed(x, "?");
        x.text();
        x.lay(1, 3, 0);
        Checks.due("read behind a text with a FAULT", x.read(1, 2, 0, 2), 2);
        marks(x, "read behind a FAULT", 0, 0, 1);
    }

    private static void sheetsAreOfTheirOwn() {
        Checks.says("CELL i of a SHEET becomes v (its lowest bits): 1.");
        EveningFirst x = row();
        for (int k = 0; k < 4; k++) {
            Checks.lay(x, k, k % 3, k % 3, k < 2 ? 1 : 2, 9);
        }
        int[][] due = {{1, 0, 0}, {1, 1, 0}, {1, 1, 2}, {2, 1, 2}};
        for (int k = 0; k < 4; k++) {
            Checks.due("read of SHEET " + k, x.read(k, k % 3, 0, 1), 1);
            marks(x, "of SHEET " + k, due[k]);
        }
        Checks.due("lay(2, 1, 0)", x.lay(2, 1, 0), 1);
        Checks.due("read, another CELL is as it was", x.read(2, 2, 0, 1), 1);
        marks(x, "behind lay", 2, 1, 0);
        Checks.due("lay(2, 0, 1)", x.lay(2, 0, 1), 1);
        Checks.due("read", x.read(2, 2, 0, 1), 1);
        marks(x, "behind lay", 2, 0, 0);
        Checks.due("sheet(2, 0, 2), new", x.sheet(2, 0, 2), 1);
        Checks.due("read of a new one", x.read(2, 0, 0, 1), 1);
        marks(x, "of a new one", 0, 0, 0);
        Checks.due("read of SHEET 3 as it was", x.read(3, 0, 0, 1), 1);
        marks(x, "of SHEET 3", 2, 0, 0);
    }
}
