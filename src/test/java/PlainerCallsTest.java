import java.math.BigInteger;
import java.util.ArrayList;
import java.util.List;
import java.util.Random;
import java.util.function.Consumer;
import java.util.function.ToLongFunction;

/**
 * Sentences that are told by other ones: what a call answers is held against what the plainer calls answer from
 * which the document builds it (lacks and hangs by has and deed, days by hangs, THE GREATEST by all days, and so on).
 */
public final class PlainerCallsTest {
    private static final int FAMILIES = 150;
    private static final int CALLS_OF_ONE = 300;

    public static void main(String[] args) {
        for (int seed = 0; seed < FAMILIES; seed++) {
            Facts facts = new Facts(seed);
            hangsAndLacks(facts);
            days(facts);
            greatest(facts);
            made(facts);
            stop(facts);
            reach(facts);
            better(facts);
            common(facts);
            oddsAndLuck(facts);
            ways(facts);
            walk(facts);
            count(facts);
        }
        Checks.end("PlainerCallsTest");
    }

    /** A family by a seed, objects that are made of it, and what the plainest calls say of it. */
    private static final class Facts {
        final int seed;
        final int hours;
        final int people;
        final int deeds;
        final int all;
        final int[][] deed;
        /** By day and place (HOURS times the ONE, and the HOUR): what he HAS. */
        final int[][] had;
        private EveningFirst x;
        private int asked;

        Facts(int seed) {
            this.seed = seed;
            hours = (int) ask(y -> y.rule(0));
            people = (int) ask(y -> y.rule(1));
            deeds = (int) ask(y -> y.rule(2));
            all = (1 << deeds) - 1;
            deed = new int[deeds][7];
            for (int d = 0; d < deeds; d++) {
                for (int what = 0; what < 7; what++) {
                    int of = d;
                    int half = what;
                    deed[d][what] = (int) ask(y -> y.deed(of, half));
                }
            }
            had = new int[all + 1][people * hours];
            for (int i = 0; i < had.length * people * hours; i++) {
                int day = i / (people * hours);
                int place = i % (people * hours);
                had[day][place] = (int) ask(y -> y.has(place / hours, place % hours, day));
            }
        }

        /** Half of the families go against each other and give late and early, so that most goes round. */
        EveningFirst made() {
            Random dice = new Random(seed);
            boolean round = seed % 2 == 0;
            int hours = 2 + dice.nextInt(7);
            int people = 2 + dice.nextInt(round ? 1 : 3);
            int kinds = 1 + dice.nextInt(4);
            StringBuilder words = new StringBuilder("hours " + hours + ";");
            String[] ways = {"forth", "back", "other"};
            for (int p = 0; p < people; p++) {
                words.append("one ").append(ways[round ? p : dice.nextInt(3)]);
                words.append(dice.nextInt(round ? 9 : 2) == 0 ? " " + dice.nextInt(kinds) : "").append(";");
            }
            EveningFirst made = Checks.told(words.toString());
            int deeds = 3 + dice.nextInt(5);
            for (int d = 0; d < deeds; d++) {
                int who = dice.nextInt(people);
                int whom = round ? 1 - who : dice.nextInt(people);
                int half = hours / 2;
                int hour = !round || dice.nextInt(6) == 0 ? dice.nextInt(hours) : who == 0 ? hours - 1 - dice.nextInt(half) : dice.nextInt(half);
                made.does(hour, who, whom, dice.nextInt(kinds), dice.nextInt(round ? 9 : 3) == 0 ? 0 : 1 << dice.nextInt(kinds));
                made.odd(d, dice.nextInt(11));
                made.mark(d, Math.max(0, dice.nextInt(16) - 13));
            }
            return made;
        }

        long ask(ToLongFunction<EveningFirst> call) {
            if (x == null || asked == CALLS_OF_ONE) {
                x = made();
                asked = 0;
            }
            asked++;
            return call.applyAsLong(x);
        }

        /** What a call answers behind a change. */
        long askBehind(Consumer<EveningFirst> change, ToLongFunction<EveningFirst> call) {
            EveningFirst y = made();
            change.accept(y);
            return call.applyAsLong(y);
        }

        void due(String name, ToLongFunction<EveningFirst> call, long want) {
            Checks.due(name + " of family " + seed, ask(call), want);
        }

        int had(int p, int h, int day) {
            return had[day][p * hours + h];
        }

        int lacking(int d, int day) {
            return deed[d][4] & ~had(deed[d][1], deed[d][0], day);
        }

        boolean hangs(int day) {
            for (int d = 0; d < deeds; d++) {
                if (in(day, d) && lacking(d, day) != 0) {
                    return false;
                }
            }
            return true;
        }

        int marked(int m) {
            int bits = 0;
            for (int d = 0; d < deeds; d++) {
                bits |= deed[d][5] == m ? 1 << d : 0;
            }
            return bits;
        }

        List<Integer> allowed() {
            List<Integer> days = new ArrayList<>();
            for (int day = 0; day <= all; day++) {
                if (hangs(day) && (day & marked(1)) == marked(1) && (day & marked(2)) == 0) {
                    days.add(day);
                }
            }
            return days;
        }
    }

    private static boolean in(int bits, int i) {
        return (bits >> i & 1) == 1;
    }

    private static void hangsAndLacks(Facts f) {
        for (int day = 0; day <= f.all; day++) {
            int some = day;
            int first = -4;
            int thing = -4;
            for (int d = f.deeds - 1; d >= 0; d--) {
                if (in(day, d) && f.lacking(d, day) != 0) {
                    first = d;
                    thing = Integer.numberOfTrailingZeros(f.lacking(d, day));
                }
            }
            Checks.says("A DAY HANGS TOGETHER, if of each of its DEEDS the one who does it HAS in its HOUR all THINGS that it WANTS.");
            f.due("hangs(" + day + ")", y -> y.hangs(some), first == -4 ? 1 : 0);
            Checks.says("The first DEED of a DAY, by order, that WANTS what is not there (what 0), the first THING of these (1).");
            f.due("lacks(" + day + ", 0)", y -> y.lacks(some, 0), first);
            f.due("lacks(" + day + ", 1)", y -> y.lacks(some, 1), thing);
        }
    }

    private static void days(Facts f) {
        Checks.says("A DAY is ALLOWED, if it HANGS TOGETHER, has all DEEDS that must be, none that must not be.");
        List<Integer> days = f.allowed();
        int inAll = f.all;
        int inSome = 0;
        for (int day : days) {
            inAll &= day;
            inSome |= day;
        }
        boolean none = days.isEmpty();
        f.due("days(0)", y -> y.days(0), days.size());
        f.due("days(1)", y -> y.days(1), none ? -4 : days.get(0));
        f.due("days(2)", y -> y.days(2), none ? -4 : days.get(days.size() - 1));
        f.due("days(3)", y -> y.days(3), none ? -4 : inAll);
        f.due("days(4)", y -> y.days(4), none ? -4 : f.all & ~inSome);
    }

    private static void greatest(Facts f) {
        Checks.says("THE GREATEST is the one with all DEEDS that are in some DAY that HANGS TOGETHER without any that must not be "
                + "(so it HANGS TOGETHER, too).");
        int union = 0;
        for (int day = 0; day <= f.all; day++) {
            union |= f.hangs(day) && (day & f.marked(2)) == 0 ? day : 0;
        }
        f.due("greatest()", EveningFirst::greatest, union);
        f.due("hangs(greatest())", y -> y.hangs(y.greatest()), 1);
        f.due("lacks(greatest(), 0)", y -> y.lacks(y.greatest(), 0), -4);
    }

    private static void made(Facts f) {
        Checks.says("MADE are DEEDS of THE GREATEST, step by step: those of which all that is WANTED is HAD by those that were MADE "
                + "before. Others of it GO ROUND.");
        int great = (int) f.ask(EveningFirst::greatest);
        int made = 0;
        int steps = 0;
        for (int before = -1; before != made; steps++) {
            before = made;
            for (int d = 0; d < f.deeds; d++) {
                made |= in(great, d) && f.lacking(d, before) == 0 ? 1 << d : 0;
            }
        }
        f.due("made(0)", y -> y.made(0), made);
        f.due("made(1)", y -> y.made(1), great & ~made);
        f.due("made(2)", y -> y.made(2), steps - 1);
    }

    private static void stop(Facts f) {
        Checks.says("The DEED that must not be (all else as it is) so that fewest DEEDS GO ROUND then, fewer than now, of several the "
                + "first (what 0), how many do then (1).");
        long fewest = Long.bitCount(f.ask(y -> y.made(1)));
        int which = -4;
        for (int d = 0; d < f.deeds; d++) {
            int one = d;
            long then = Long.bitCount(f.askBehind(y -> y.mark(one, 2), y -> y.made(1)));
            if (then < fewest) {
                fewest = then;
                which = d;
            }
        }
        f.due("stop(0)", y -> y.stop(0), which);
        f.due("stop(1)", y -> y.stop(1), which == -4 ? -4 : fewest);
    }

    private static void reach(Facts f) {
        Checks.says("The fewest DEEDS of an ALLOWED DAY by which a ONE HAS a THING in an HOUR (what 0), of such DAYS the least (1).");
        for (int i = 0; i < f.people * f.hours * 6; i++) {
            int p = i / 6 / f.hours;
            int h = i / 6 % f.hours;
            int t = i % 6;
            int best = -4;
            for (int day : f.allowed()) {
                boolean fewer = best == -4 || Integer.bitCount(day) < Integer.bitCount(best);
                best = fewer && in(f.had(p, h, day), t) ? day : best;
            }
            String name = "reach(" + p + ", " + t + ", " + h + ", ";
            f.due(name + "0)", y -> y.reach(p, t, h, 0), best == -4 ? -4 : Integer.bitCount(best));
            f.due(name + "1)", y -> y.reach(p, t, h, 1), best);
        }
    }

    private static void better(Facts f) {
        Checks.says("The HOUR to which a DEED is to be put so that THE GREATEST has most DEEDS, more than now, of several the first "
                + "(what 0), how many it has then (1).");
        for (int d = 0; d < f.deeds; d++) {
            int one = d;
            long most = f.ask(y -> y.count(6));
            int where = -4;
            for (int h = 0; h < f.hours; h++) {
                int to = h;
                long then = f.askBehind(y -> y.shift(one, to), y -> y.count(6));
                if (then > most) {
                    most = then;
                    where = h;
                }
            }
            f.due("better(" + d + ", 0)", y -> y.better(one, 0), where);
            f.due("better(" + d + ", 1)", y -> y.better(one, 1), where == -4 ? -4 : most);
        }
    }

    private static void common(Facts f) {
        Checks.says("HOURS in which both of two HAVE a THING by THE GREATEST (bits).");
        int great = (int) f.ask(EveningFirst::greatest);
        for (int i = 0; i < f.people * f.people * 6; i++) {
            int p = i / 6 / f.people;
            int q = i / 6 % f.people;
            int t = i % 6;
            int hours = 0;
            for (int h = 0; h < f.hours; h++) {
                hours |= in(f.had(p, h, great), t) && in(f.had(q, h, great), t) ? 1 << h : 0;
            }
            f.due("common(" + p + ", " + q + ", " + t + ")", y -> y.common(p, q, t), p == q ? -1 : hours);
        }
    }

    /** By how many of 10 to the DEEDS a day is done. */
    private static BigInteger weight(Facts f, int day) {
        BigInteger weight = BigInteger.ONE;
        for (int d = 0; d < f.deeds; d++) {
            int tenths = new int[] {f.deed[d][6], 10, 0}[f.deed[d][5]];
            weight = weight.multiply(BigInteger.valueOf(in(day, d) ? tenths : 10 - tenths));
        }
        return weight;
    }

    private static void oddsAndLuck(Facts f) {
        Checks.says("Each DEED (those that must be for sure, those that must not be never) being done by its ODDS, by itself: that the "
                + "DAY HANGS TOGETHER. Fractions are in lowest terms, the denominator above 0.");
        BigInteger whole = BigInteger.TEN.pow(f.deeds);
        BigInteger hang = BigInteger.ZERO;
        BigInteger[] lucky = new BigInteger[f.people * f.hours * 6];
        java.util.Arrays.fill(lucky, BigInteger.ZERO);
        for (int day = 0; day <= f.all; day++) {
            BigInteger weight = f.hangs(day) ? weight(f, day) : BigInteger.ZERO;
            hang = hang.add(weight);
            for (int i = 0; i < lucky.length; i++) {
                lucky[i] = in(f.had(i / 6 / f.hours, i / 6 % f.hours, day), i % 6) ? lucky[i].add(weight) : lucky[i];
            }
        }
        f.due("odds(0)", y -> y.odds(0), hang.divide(hang.gcd(whole)).longValueExact());
        f.due("odds(1)", y -> y.odds(1), whole.divide(hang.gcd(whole)).longValueExact());
        Checks.says("Likewise, that it HANGS TOGETHER and a ONE HAS a THING in an HOUR: 0, 1.");
        for (int i = 0; i < lucky.length; i++) {
            int p = i / 6 / f.hours;
            int h = i / 6 % f.hours;
            int t = i % 6;
            BigInteger divisor = lucky[i].gcd(whole);
            String name = "luck(" + p + ", " + t + ", " + h + ", ";
            f.due(name + "0)", y -> y.luck(p, t, h, 0), lucky[i].divide(divisor).longValueExact());
            f.due(name + "1)", y -> y.luck(p, t, h, 1), whole.divide(divisor).longValueExact());
        }
    }

    private static int wayOf(int code, int p) {
        return code / new int[] {1, 3, 9, 27}[p] % 3;
    }

    private static void ways(Facts f) {
        Checks.says("WAYS of all PEOPLE FIT, if by them (all else as it is; THE GREATEST by them) all that was SEEN is so.");
        Random dice = new Random(f.seed);
        List<int[]> seen = new ArrayList<>();
        int great = (int) f.ask(EveningFirst::greatest);
        for (int i = 0; i < 1 + f.seed % 4; i++) {
            int p = dice.nextInt(f.people);
            int t = dice.nextInt(3);
            int h = dice.nextInt(f.hours);
            // mostly as it is by the WAYS that they go, so that some fit
            boolean is = in(f.had(p, h, great), t) != (dice.nextInt(9) == 0);
            seen.add(new int[] {p, t, h, is ? 1 : 0});
        }
        Consumer<EveningFirst> see = y -> {
            for (int[] one : seen) {
                y.see(one[0], one[1], one[2], one[3] == 1);
            }
        };
        List<Integer> fit = new ArrayList<>();
        int[] can = new int[f.people];
        int codes = new int[] {1, 3, 9, 27, 81}[f.people];
        for (int code = 0; code < codes; code++) {
            if (isFit(f, code, seen)) {
                fit.add(code);
                for (int p = 0; p < f.people; p++) {
                    can[p] |= 1 << wayOf(code, p);
                }
            }
        }
        Checks.due("ways(0) of family " + f.seed, f.askBehind(see, y -> y.ways(0)), fit.size());
        Checks.due("ways(1) of family " + f.seed, f.askBehind(see, y -> y.ways(1)), fit.isEmpty() ? -4 : fit.get(0));
        for (int p = 0; p < f.people; p++) {
            int one = p;
            Checks.due("ways(10 and " + p + ") of family " + f.seed, f.askBehind(see, y -> y.ways(10 + one)), can[p]);
        }
    }

    private static boolean isFit(Facts f, int code, List<int[]> seen) {
        EveningFirst y = f.made();
        for (int p = 0; p < f.people; p++) {
            y.go(p, wayOf(code, p));
        }
        for (int[] one : seen) {
            if (in(y.has(one[0], one[2], y.greatest()), one[1]) != (one[3] == 1)) {
                return false;
            }
        }
        return true;
    }

    private static void walk(Facts f) {
        Checks.says("the seed becomes seed times 1103515245 and 12345; bits 16 to 30 of it modulo DEEDS: it is done, if what it WANTS is "
                + "HAD by those that were done before (none at first), and it is not one that must not be: DEEDS that are done (bits).");
        for (int seed = f.seed - 30; seed < f.seed; seed++) {
            BigInteger s = BigInteger.valueOf(seed);
            int by = seed;
            int done = 0;
            for (int n = 1; n <= 60; n++) {
                int times = n;
                s = s.multiply(BigInteger.valueOf(1103515245)).add(BigInteger.valueOf(12345));
                int d = s.shiftRight(16).mod(BigInteger.valueOf(32768)).intValue() % f.deeds;
                done |= f.deed[d][5] != 2 && f.lacking(d, done) == 0 ? 1 << d : 0;
                f.due("walk(" + seed + ", " + n + ")", y -> y.walk(by, times), done);
            }
        }
    }

    private static void count(Facts f) {
        Checks.says("How many: 0 DEEDS that must be, 1 that must not be, 6 DEEDS in THE GREATEST.");
        f.due("count(0)", y -> y.count(0), Integer.bitCount(f.marked(1)));
        f.due("count(1)", y -> y.count(1), Integer.bitCount(f.marked(2)));
        f.due("count(6)", y -> y.count(6), Long.bitCount(f.ask(EveningFirst::greatest)));
    }
}
