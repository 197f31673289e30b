import java.util.ArrayList;
import java.util.Arrays;
import java.util.List;
import java.util.function.Function;
import java.util.function.Supplier;
import java.util.function.ToLongFunction;

/**
 * What the tests of boundaries share. A call that is refused is made on one of two objects that were made
 * alike; then all that later calls show is asked of both. No object sees more than its 512 calls.
 */
final class Checks {
    static final int BAD = -1, STATE = -2, FULL = -3, NONE = -4;

    private static int checked = 0;
    private static int wrong = 0;
    private static String sentence = "";

    private Checks() {
    }

    /** A call with one number, where a row of numbers is to be tried. */
    interface ByNumber {
        long of(EveningFirst x, int v);
    }

    /** The sentence of the document that the checks behind it are about. */
    static void says(String words) {
        sentence = words;
    }

    static void due(String call, long got, long want) {
        checked++;
        if (got != want) {
            wrong++;
            System.out.println(call + " answered " + got + ", due is " + want + "; the document: " + sentence);
        }
    }

    static void end(String test) {
        System.out.println(test + ": " + checked + " answers, " + wrong + " wrong");
        if (wrong != 0) {
            System.exit(1);
        }
    }

    // ---- objects

    static void feed(EveningFirst x, String words) {
        for (int i = 0; i < words.length(); i++) {
            x.feed(words.charAt(i));
        }
    }

    static EveningFirst told(String words) {
        EveningFirst x = new EveningFirst();
        feed(x, words);
        int lines = x.text();
        due("text of '" + words + "'", lines < 0 ? lines : 0, 0);
        return x;
    }

    static String times(int n, String words) {
        StringBuilder s = new StringBuilder();
        for (int i = 0; i < n; i++) {
            s.append(words);
        }
        return s.toString();
    }

    /** Something of everything: people, deeds of all marks, two seen, an image, half a text, three sheets, faults. */
    static EveningFirst rich() {
        EveningFirst x = told("hours 5;one forth 0;one back;one other 3 1;one back 5;deed 1 0 1 1 0;deed 0 1 0 2 1;"
                + "deed 3 2 2 4;deed 2 0 1 3 4;deed 4 1 0 4 3;must 0;odds 1 4;odds 3 9;");
        feed(x, "hours 9;");
        x.text();
        x.see(0, 2, 4, true);
        x.keep(0);
        x.see(1, 1, 0, true);
        x.go(3, 2);
        x.birth(1, 16);
        x.does(2, 3, 2, 0, 32);
        x.does(0, 2, 3, 1, 0);
        x.mark(5, 2);
        x.odd(2, 5);
        lay(x, 0, 0, 0, 1, 1, 2, 6, 0);
        lay(x, 1, 1, 2, 1, 3, 2, 4);
        lay(x, 2, 2, 6, 2, 5, 1, 1, 3, 0, 0);
        x.read(1, 1, 0, 9);
        feed(x, "hours 6;one ba");
        return x;
    }

    static void lay(EveningFirst x, int k, int lane, int... cells) {
        x.sheet(k, lane, cells.length);
        for (int i = 0; i < cells.length; i++) {
            x.lay(k, i, cells[i]);
        }
    }

    // ---- what later calls show

    private static List<Long> numbers(long... some) {
        List<Long> list = new ArrayList<>();
        for (long one : some) {
            list.add(one);
        }
        return list;
    }

    private static List<Long> faults(EveningFirst x) {
        return numbers(x.fault(), x.torn(), x.count(4));
    }

    private static List<Long> told(EveningFirst x) {
        List<Long> all = numbers(x.rule(0), x.rule(1), x.rule(2), x.torn());
        for (int p = 0; p < 4; p++) {
            for (int i = -2; i < 8; i++) {
                all.add((long) x.one(p, i < 0 ? i + 2 : 10 + i));
            }
        }
        for (int d = 0; d < 8; d++) {
            for (int what = 0; what < 7; what++) {
                all.add((long) x.deed(d, what));
            }
        }
        for (int what = 0; what < 7; what++) {
            all.add((long) x.count(what));
        }
        return all;
    }

    private static List<Long> follows(EveningFirst x) {
        List<Long> all = numbers(x.greatest(), x.stop(0), x.stop(1), x.odds(0), x.odds(1), x.walk(1, 60), x.walk(9, 4));
        for (int i = 0; i < 5; i++) {
            all.add((long) x.days(i));
            all.add((long) x.made(i));
        }
        for (int what : new int[] {0, 1, 10, 11, 12, 13}) {
            all.add((long) x.ways(what));
        }
        for (int p = 0; p < 4; p++) {
            for (int h = 0; h < 8; h++) {
                all.add((long) x.has(p, h, x.greatest()));
            }
            for (int t = 0; t < 6; t++) {
                all.add((long) x.common(p, (p + 1) % 4, t));
                all.add((long) x.reach(p, t, 1, 1));
                all.add(x.luck(p, t, 2, 0));
            }
        }
        return all;
    }

    private static List<Long> tape(EveningFirst x, String more) {
        feed(x, more);
        List<Long> all = numbers(x.text(), x.fault());
        all.addAll(told(x));
        return all;
    }

    private static List<Long> image(EveningFirst x, int k) {
        List<Long> all = numbers(x.back(k));
        all.addAll(told(x));
        return all;
    }

    private static List<Long> cells(EveningFirst x, int k) {
        List<Long> all = new ArrayList<>();
        for (int lane = 0; lane < 3; lane++) {
            all.addAll(numbers(x.lay(k, -1, 0), x.read(k, lane, 0, 0), x.torn(), x.read(k, lane, 0, 20), x.torn()));
        }
        for (int f = 0; f < 10; f++) {
            for (int lane = 0; lane < 3; lane++) {
                all.addAll(numbers(x.read(k, lane, f, 1), x.torn(), x.count(0), x.count(1)));
            }
        }
        all.addAll(told(x));
        return all;
    }

    private static List<Function<EveningFirst, List<Long>>> shown() {
        return Arrays.asList(Checks::told, Checks::follows, x -> tape(x, ""), x -> tape(x, "ck 4;"),
                x -> image(x, 0), x -> image(x, 1), x -> cells(x, 0), x -> cells(x, 1), x -> cells(x, 2), x -> cells(x, 3));
    }

    // ---- what is refused

    private static void alike(String call, List<Long> got, List<Long> want) {
        checked++;
        if (!got.equals(want)) {
            wrong++;
            System.out.println(call + " changes nothing, but behind it is shown " + got + ", due is " + want
                    + "; the document: " + sentence);
        }
    }

    /** The call is refused by the answer that is due, and changes nothing; or it only asks, which changes nothing as well. */
    static void refused(String name, Supplier<EveningFirst> made, ToLongFunction<EveningFirst> call, long want) {
        EveningFirst x = made.get();
        due(name, call.applyAsLong(x), want);
        alike(name, faults(x), faults(made.get()));
        for (Function<EveningFirst, List<Long>> look : shown()) {
            x = made.get();
            call.applyAsLong(x);
            alike(name, look.apply(x), look.apply(made.get()));
        }
    }

    /** A text with a FAULT: its place and kind; THE TAPE is empty then, all else is as it was. */
    static void faulty(Supplier<EveningFirst> made, String words, int fault, int place) {
        String name = "text of '" + words + "'";
        for (Function<EveningFirst, List<Long>> look : shown()) {
            EveningFirst x = made.get();
            x.end(0);
            feed(x, words);
            due(name, x.text(), -10 - place);
            due("fault() behind " + name, x.fault(), fault);
            due("count(4) behind " + name, x.count(4), 0);
            EveningFirst y = made.get();
            y.end(0);
            alike(name, look.apply(x), look.apply(y));
        }
    }

    /** As faulty, of a new object, where it is quick to look. */
    static void faulty(String words, int fault, int place) {
        EveningFirst x = new EveningFirst();
        feed(x, words);
        due("text of '" + words + "'", x.text(), -10 - place);
        due("fault() of '" + words + "'", x.fault(), fault);
        due("count(4) behind '" + words + "'", x.count(4), 0);
        due("rule(0) behind '" + words + "'", x.rule(0), 4);
        due("rule(1) behind '" + words + "'", x.rule(1), 0);
        due("rule(2) behind '" + words + "'", x.rule(2), 0);
    }

    static EveningFirst taken(String words, int lines) {
        EveningFirst x = new EveningFirst();
        feed(x, words);
        due("text of '" + words + "'", x.text(), lines);
        due("fault() of '" + words + "'", x.fault(), 0);
        due("count(4) behind '" + words + "'", x.count(4), 0);
        return x;
    }

    /** Numbers on both sides of a row of good ones: next to it, and such as a narrower type or a wrap would let in. */
    static int[] outside(int from, int to) {
        int[] some = {Integer.MIN_VALUE, Integer.MIN_VALUE + 1, from - 65536, from - 256, from - 2, from - 1,
            to + 1, to + 2, to + 256, to + 65536, Integer.MAX_VALUE - 1, Integer.MAX_VALUE};
        int many = 0;
        for (int v : some) {
            if (v < from || v > to) {
                some[many++] = v;
            }
        }
        return Arrays.copyOf(some, many);
    }

    /** All but the good numbers are BAD and change nothing. */
    static void badOutside(String name, Supplier<EveningFirst> made, int from, int to, ByNumber call) {
        for (int v : outside(from, to)) {
            refused(name + " by " + v, made, x -> call.of(x, v), BAD);
        }
    }
}
