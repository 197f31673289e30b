import java.math.BigInteger;
import java.util.ArrayList;
import java.util.Arrays;
import java.util.HashSet;
import java.util.List;
import java.util.Random;
import java.util.Set;

/**
 * Runs of calls by fixed seeds, each answer held against a model that is written another way: rows of
 * hours as lists, days tried one by one, fractions of BigInteger, and real arrays whose faults the
 * machine finds. A word of the document that both take wrongly is not found here; a slip is.
 */
public final class ModelTest {
    private static final int RUNS = 1500;
    private static final int CALLS = 500;

    public static void main(String[] args) {
        int wrong = 0;
        int[] asked = new int[37];
        int[] good = new int[37];
        for (int run = 0; run < RUNS && wrong < 20; run++) {
            wrong += oneRun(run, asked, good);
        }
        for (int call = 1; call < asked.length; call++) {
            // a call that never came through would not have been tested
            if (good[call] < 100) {
                wrong++;
                System.out.println("call " + call + " was answered well only " + good[call] + " times of " + asked[call]);
            }
        }
        System.out.println("ModelTest: " + RUNS + " runs of " + CALLS + " calls, " + wrong + " wrong");
        if (wrong != 0) {
            System.exit(1);
        }
    }

    private static int oneRun(int run, int[] asked, int[] good) {
        Random dice = new Random(run);
        EveningFirst x = new EveningFirst();
        Model model = new Model();
        List<String> log = new ArrayList<>();
        int left = CALLS;
        String text = Texts.some(dice);
        int fed = 0;
        while (left-- > 0) {
            int call;
            int[] a = new int[5];
            if (fed < text.length()) {
                call = 1;
                a[0] = text.charAt(fed++);
                if (fed == text.length() && dice.nextInt(8) == 0) {
                    text = text + " ";
                }
            } else if (!text.isEmpty()) {
                call = 3;
                text = "";
                fed = 0;
            } else if (dice.nextInt(model.people.isEmpty() ? 3 : 90) == 0) {
                text = Texts.some(dice);
                fed = 0;
                continue;
            } else {
                call = 1 + dice.nextInt(36);
                // the tape stays empty but for texts, for the most part
                if (call == 3 && dice.nextInt(10) != 0) {
                    call = 10;
                }
                if (call == 1 && dice.nextInt(4) != 0) {
                    call = 2;
                }
                fill(call, a, dice, model);
            }
            long got = onClass(x, call, a);
            long want = onModel(model, call, a);
            asked[call]++;
            if (want >= 0) {
                good[call]++;
            }
            log.add(call + Arrays.toString(a) + " = " + got);
            if (got != want) {
                System.out.println("run " + run + ": call " + call + " " + Arrays.toString(a) + " answered " + got
                        + ", the model " + want + "; behind " + log.subList(Math.max(0, log.size() - 200), log.size()));
                return 1;
            }
        }
        return 0;
    }

    private static int near(Random dice, int below) {
        int r = dice.nextInt(40);
        if (r == 0) {
            return -1;
        }
        if (r == 1) {
            return below;
        }
        if (r == 2) {
            return dice.nextInt();
        }
        return below <= 0 ? 0 : dice.nextInt(below);
    }

    private static void fill(int call, int[] a, Random dice, Model m) {
        int people = m.people.size();
        int deeds = m.deeds.size();
        for (int i = 0; i < 5; i++) {
            a[i] = near(dice, 8);
        }
        switch (call) {
            case 1: a[0] = near(dice, 128); break;
            case 2: a[0] = near(dice, m.tape.length() + 1); break;
            case 5: a[0] = near(dice, 3); break;
            case 6: a[0] = near(dice, people); a[1] = dice.nextBoolean() ? near(dice, 2) : 10 + near(dice, m.hours); break;
            case 7: a[0] = near(dice, deeds); a[1] = near(dice, 7); break;
            case 8: a[0] = near(dice, people); a[1] = near(dice, 3); break;
            case 9: a[0] = near(dice, people); a[1] = near(dice, 64) & (dice.nextInt(5) == 0 ? -1 : 1 << dice.nextInt(6)); break;
            case 10:
                a[0] = near(dice, m.hours);
                a[1] = near(dice, people);
                a[2] = near(dice, people);
                a[3] = near(dice, 6);
                a[4] = dice.nextInt(3) == 0 ? 0 : dice.nextInt(8) == 0 ? near(dice, 64) : 1 << dice.nextInt(6);
                break;
            case 11: a[0] = near(dice, deeds); a[1] = near(dice, m.hours); break;
            case 12: a[0] = near(dice, deeds); a[1] = dice.nextInt(3) == 0 ? near(dice, 3) : 0; break;
            case 13: a[0] = near(dice, deeds); a[1] = near(dice, 11); break;
            case 14: a[0] = near(dice, people); a[1] = near(dice, m.hours); a[2] = near(dice, 1 << deeds); break;
            case 15: a[0] = near(dice, 1 << deeds); break;
            case 16: a[0] = near(dice, 1 << deeds); a[1] = near(dice, 2); break;
            case 17: a[0] = near(dice, 5); break;
            case 19: a[0] = near(dice, 3); break;
            case 20: a[0] = near(dice, 2); break;
            case 21: a[0] = near(dice, people); a[1] = near(dice, 6); a[2] = near(dice, m.hours); a[3] = near(dice, 2); break;
            case 22: a[0] = near(dice, deeds); a[1] = near(dice, 2); break;
            case 23: a[0] = near(dice, people); a[1] = near(dice, people); a[2] = near(dice, 6); break;
            case 24: a[0] = near(dice, 2); break;
            case 25: a[0] = near(dice, people); a[1] = near(dice, 6); a[2] = near(dice, m.hours); a[3] = near(dice, 2); break;
            case 26: a[0] = near(dice, people); a[1] = near(dice, 6); a[2] = near(dice, m.hours); a[3] = dice.nextInt(2); break;
            case 27: a[0] = near(dice, m.seen.size() + 1); break;
            case 28: a[0] = dice.nextBoolean() ? near(dice, 2) : 10 + near(dice, people); break;
            case 29: a[0] = dice.nextInt(); a[1] = 1 + near(dice, 60); break;
            case 30: case 31: a[0] = near(dice, 2); break;
            case 32: a[0] = near(dice, 4); a[1] = near(dice, 3); a[2] = dice.nextInt(9) == 0 ? -dice.nextInt(5) : near(dice, 41); break;
            case 33:
                a[0] = near(dice, 4);
                a[1] = near(dice, 12);
                a[2] = dice.nextInt(20) == 0 ? dice.nextInt() : near(dice, 3) + (dice.nextInt(9) == 0 ? 65536 : 0);
                break;
            case 34: a[0] = near(dice, 4); a[1] = near(dice, 3); a[2] = near(dice, 30); a[3] = near(dice, 21); break;
            case 36: a[0] = near(dice, 7); break;
            default: break;
        }
    }

    private static long onClass(EveningFirst x, int call, int[] a) {
        switch (call) {
            case 1: return x.feed(a[0]);
            case 2: return x.end(a[0]);
            case 3: return x.text();
            case 4: return x.fault();
            case 5: return x.rule(a[0]);
            case 6: return x.one(a[0], a[1]);
            case 7: return x.deed(a[0], a[1]);
            case 8: return x.go(a[0], a[1]);
            case 9: return x.birth(a[0], a[1]);
            case 10: return x.does(a[0], a[1], a[2], a[3], a[4]);
            case 11: return x.shift(a[0], a[1]);
            case 12: return x.mark(a[0], a[1]);
            case 13: return x.odd(a[0], a[1]);
            case 14: return x.has(a[0], a[1], a[2]);
            case 15: return x.hangs(a[0]);
            case 16: return x.lacks(a[0], a[1]);
            case 17: return x.days(a[0]);
            case 18: return x.greatest();
            case 19: return x.made(a[0]);
            case 20: return x.stop(a[0]);
            case 21: return x.reach(a[0], a[1], a[2], a[3]);
            case 22: return x.better(a[0], a[1]);
            case 23: return x.common(a[0], a[1], a[2]);
            case 24: return x.odds(a[0]);
            case 25: return x.luck(a[0], a[1], a[2], a[3]);
            case 26: return x.see(a[0], a[1], a[2], a[3] == 1);
            case 27: return x.forget(a[0]);
            case 28: return x.ways(a[0]);
            case 29: return x.walk(a[0], a[1]);
            case 30: return x.keep(a[0]);
            case 31: return x.back(a[0]);
            case 32: return x.sheet(a[0], a[1], a[2]);
            case 33: return x.lay(a[0], a[1], a[2]);
            case 34: return x.read(a[0], a[1], a[2], a[3]);
            case 35: return x.torn();
            default: return x.count(a[0]);
        }
    }

    private static long onModel(Model m, int call, int[] a) {
        try {
            switch (call) {
                case 1: return m.feed(a[0]);
                case 2: m.must(a[0] >= 0 && a[0] <= m.tape.length()); return m.end(a[0]);
                case 3: return m.text();
                case 4: return m.fault;
                case 5: m.must(a[0] >= 0 && a[0] < 3); return new int[] {m.hours, m.people.size(), m.deeds.size()}[a[0]];
                case 6: return m.one(a[0], a[1]);
                case 7: m.deed(a[0]); m.must(a[1] >= 0 && a[1] < 7); return m.deeds.get(a[0])[a[1]];
                case 8: m.one(a[0]); m.must(a[1] >= 0 && a[1] < 3); return m.put(m.people.get(a[0]), 0, a[1]);
                case 9: m.one(a[0]); m.must(a[1] >= 0 && a[1] < 64); return m.put(m.people.get(a[0]), 1, a[1]);
                case 10: return m.does(a);
                case 11: m.deed(a[0]); m.hour(a[1]); return m.put(m.deeds.get(a[0]), 0, a[1]);
                case 12: m.deed(a[0]); m.must(a[1] >= 0 && a[1] < 3); return m.put(m.deeds.get(a[0]), 5, a[1]);
                case 13: m.deed(a[0]); m.must(a[1] >= 0 && a[1] < 11); return m.put(m.deeds.get(a[0]), 6, a[1]);
                case 14: m.one(a[0]); m.hour(a[1]); m.day(a[2]); return m.bits(m.things(a[0], a[1], a[2]));
                case 15: m.day(a[0]); return m.hangs(a[0]) ? 1 : 0;
                case 16: m.day(a[0]); m.half(a[1]); return m.lacks(a[0], a[1]);
                case 17: m.must(a[0] >= 0 && a[0] < 5); return m.days(a[0]);
                case 18: return m.greatest();
                case 19: m.must(a[0] >= 0 && a[0] < 3); return m.made()[a[0]];
                case 20: m.half(a[0]); return m.stop(a[0]);
                case 21: m.sight(a); m.half(a[3]); return m.reach(a[0], a[1], a[2], a[3]);
                case 22: m.deed(a[0]); m.half(a[1]); return m.better(a[0], a[1]);
                case 23: m.one(a[0]); m.one(a[1]); m.thing(a[2]); m.must(a[0] != a[1]); return m.common(a[0], a[1], a[2]);
                case 24: m.half(a[0]); return m.chance(null, a[0]);
                case 25: m.sight(a); m.half(a[3]); return m.chance(a, a[3]);
                case 26: return m.see(a);
                case 27: m.must(a[0] >= 0 && a[0] <= m.seen.size()); return m.forget(a[0]);
                case 28: return m.ways(a[0]);
                case 29: return m.walk(a[0], a[1]);
                case 30: m.must(a[0] == 0 || a[0] == 1); return m.keep(a[0]);
                case 31: m.must(a[0] == 0 || a[0] == 1); return m.back(a[0]);
                case 32: return m.sheet(a[0], a[1], a[2]);
                case 33: return m.lay(a[0], a[1], a[2]);
                case 34: return m.read(a[0], a[1], a[2], a[3]);
                case 35: return m.torn;
                default: return m.count(a[0]);
            }
        } catch (Refused e) {
            return e.answer;
        }
    }

    private static final class Refused extends RuntimeException {
        private static final long serialVersionUID = 1L;
        final int answer;

        Refused(int answer) {
            this.answer = answer;
        }
    }

    private static final class Model {
        int hours = 4;
        /** way, things. */
        List<int[]> people = new ArrayList<>();
        /** hour, who, whom, thing, wants, mark, odds. */
        List<int[]> deeds = new ArrayList<>();
        /** who, thing, hour, is. */
        List<int[]> seen = new ArrayList<>();
        StringBuilder tape = new StringBuilder();
        int fault;
        int torn;
        final List<List<List<int[]>>> images = new ArrayList<>(Arrays.asList(null, null));
        final Object[] sheets = new Object[4];

        void must(boolean so) {
            if (!so) {
                throw new Refused(-1);
            }
        }

        void one(int p) {
            must(p >= 0 && p < people.size());
        }

        void deed(int d) {
            must(d >= 0 && d < deeds.size());
        }

        void hour(int h) {
            must(h >= 0 && h < hours);
        }

        void thing(int t) {
            must(t >= 0 && t <= 5);
        }

        void day(int day) {
            must(day >= 0 && day < Math.pow(2, deeds.size()));
        }

        void half(int what) {
            must(what == 0 || what == 1);
        }

        void sight(int[] a) {
            one(a[0]);
            thing(a[1]);
            hour(a[2]);
        }

        int put(int[] row, int i, int v) {
            int was = row[i];
            row[i] = v;
            return was;
        }

        int feed(int c) {
            must(c >= 0 && c < 128);
            if (tape.length() == 160) {
                return -3;
            }
            tape.append((char) c);
            return tape.length();
        }

        int end(int n) {
            int had = tape.length();
            tape.setLength(n);
            return had;
        }

        int text() {
            String words = tape.toString();
            tape.setLength(0);
            Texts told = new Texts(words);
            int answer = told.tell();
            fault = told.fault;
            if (fault == 0) {
                hours = told.hours;
                people = told.people;
                deeds = told.deeds;
                seen = new ArrayList<>();
                images.set(0, null);
                images.set(1, null);
            }
            return answer;
        }

        List<Integer> row(int way) {
            List<Integer> row = new ArrayList<>();
            if (way == 0) {
                for (int h = 0; h < hours; h++) {
                    row.add(h);
                }
            } else if (way == 1) {
                for (int h = hours - 1; h >= 0; h--) {
                    row.add(h);
                }
            } else {
                for (int h = 0; h < hours; h += 2) {
                    row.add(h);
                }
                for (int h = hours - 1; h >= 0; h--) {
                    if (h % 2 == 1) {
                        row.add(h);
                    }
                }
            }
            return row;
        }

        int one(int p, int what) {
            one(p);
            if (what == 0 || what == 1) {
                return people.get(p)[what];
            }
            must(what >= 10 && what < 10 + hours);
            return row(people.get(p)[0]).get(what - 10);
        }

        int does(int[] a) {
            hour(a[0]);
            one(a[1]);
            one(a[2]);
            thing(a[3]);
            must(a[4] >= 0 && a[4] < 64);
            if (deeds.size() == 8) {
                return -3;
            }
            deeds.add(new int[] {a[0], a[1], a[2], a[3], a[4], 0, 10});
            return deeds.size();
        }

        boolean in(int day, int i) {
            return BigInteger.valueOf(day).testBit(i);
        }

        Set<Integer> set(int bits) {
            Set<Integer> set = new HashSet<>();
            for (int i = 0; i < 10; i++) {
                if (in(bits, i)) {
                    set.add(i);
                }
            }
            return set;
        }

        int bits(Set<Integer> set) {
            int bits = 0;
            for (int i : set) {
                bits += Math.pow(2, i);
            }
            return bits;
        }

        Set<Integer> things(int p, int h, int day) {
            Set<Integer> had = set(people.get(p)[1]);
            for (int earlier : row(people.get(p)[0])) {
                if (earlier == h) {
                    break;
                }
                for (int d = 0; d < deeds.size(); d++) {
                    int[] x = deeds.get(d);
                    if (in(day, d) && x[0] == earlier && x[2] == p) {
                        had.add(x[3]);
                    }
                }
            }
            return had;
        }

        Set<Integer> lacking(int d, int day) {
            int[] x = deeds.get(d);
            Set<Integer> wanted = set(x[4]);
            wanted.removeAll(things(x[1], x[0], day));
            return wanted;
        }

        int lacks(int day, int what) {
            for (int d = 0; d < deeds.size(); d++) {
                if (in(day, d) && !lacking(d, day).isEmpty()) {
                    return what == 0 ? d : new java.util.TreeSet<>(lacking(d, day)).first();
                }
            }
            return -4;
        }

        boolean hangs(int day) {
            return lacks(day, 0) == -4;
        }

        int marked(int m) {
            int bits = 0;
            for (int d = 0; d < deeds.size(); d++) {
                bits += deeds.get(d)[5] == m ? 1 << d : 0;
            }
            return bits;
        }

        List<Integer> allowed() {
            List<Integer> list = new ArrayList<>();
            for (int day = 0; day < 1 << deeds.size(); day++) {
                if ((day | marked(1)) == day && (day & marked(2)) == 0 && hangs(day)) {
                    list.add(day);
                }
            }
            return list;
        }

        int days(int what) {
            List<Integer> list = allowed();
            if (what == 0) {
                return list.size();
            }
            if (list.isEmpty()) {
                return -4;
            }
            int all = (1 << deeds.size()) - 1;
            int some = 0;
            for (int day : list) {
                all &= day;
                some |= day;
            }
            int none = 0;
            for (int d = 0; d < deeds.size(); d++) {
                none += in(some, d) ? 0 : 1 << d;
            }
            return new int[] {0, list.get(0), list.get(list.size() - 1), all, none}[what];
        }

        /** By the words of the document: all deeds that are in some day that hangs together. */
        int greatest() {
            int union = 0;
            for (int day = (1 << deeds.size()) - 1; day >= 0; day--) {
                if ((day | union) != union && (day & marked(2)) == 0 && hangs(day)) {
                    union |= day;
                }
            }
            return union;
        }

        int[] made() {
            int great = greatest();
            int made = 0;
            int steps = 0;
            boolean more = true;
            while (more) {
                int before = made;
                for (int d = 0; d < deeds.size(); d++) {
                    if (in(great, d) && lacking(d, before).isEmpty()) {
                        made |= 1 << d;
                    }
                }
                more = made != before;
                steps += more ? 1 : 0;
            }
            return new int[] {made, great - made, steps};
        }

        int stop(int what) {
            int now = Integer.bitCount(made()[1]);
            int best = -1;
            int least = now;
            for (int d = deeds.size() - 1; d >= 0; d--) {
                int was = put(deeds.get(d), 5, 2);
                int then = Integer.bitCount(made()[1]);
                put(deeds.get(d), 5, was);
                if (then < now && then <= least) {
                    least = then;
                    best = d;
                }
            }
            return best < 0 ? -4 : what == 0 ? best : least;
        }

        int reach(int p, int t, int h, int what) {
            List<Integer> such = allowed();
            such.removeIf(day -> !things(p, h, day).contains(t));
            such.sort((a, b) -> Integer.bitCount(a) != Integer.bitCount(b)
                    ? Integer.bitCount(a) - Integer.bitCount(b) : a - b);
            return such.isEmpty() ? -4 : what == 0 ? Integer.bitCount(such.get(0)) : such.get(0);
        }

        int better(int d, int what) {
            int now = Integer.bitCount(greatest());
            int[] many = new int[hours];
            int was = deeds.get(d)[0];
            int most = 0;
            for (int h = 0; h < hours; h++) {
                deeds.get(d)[0] = h;
                many[h] = Integer.bitCount(greatest());
                most = Math.max(most, many[h]);
            }
            deeds.get(d)[0] = was;
            if (most <= now) {
                return -4;
            }
            int h = 0;
            while (many[h] != most) {
                h++;
            }
            return what == 0 ? h : most;
        }

        int common(int p, int q, int t) {
            int great = greatest();
            int bits = 0;
            for (int h = 0; h < hours; h++) {
                if (things(p, h, great).contains(t) && things(q, h, great).contains(t)) {
                    bits += 1 << h;
                }
            }
            return bits;
        }

        long chance(int[] a, int what) {
            BigInteger over = BigInteger.ZERO;
            BigInteger under = BigInteger.TEN.pow(deeds.size());
            for (int day = 0; day < 1 << deeds.size(); day++) {
                BigInteger product = BigInteger.ONE;
                for (int d = 0; d < deeds.size(); d++) {
                    int[] x = deeds.get(d);
                    int v = x[5] == 0 ? x[6] : x[5] == 1 ? 10 : 0;
                    product = product.multiply(BigInteger.valueOf(in(day, d) ? v : 10 - v));
                }
                if (product.signum() != 0 && hangs(day) && (a == null || things(a[0], a[2], day).contains(a[1]))) {
                    over = over.add(product);
                }
            }
            BigInteger divisor = over.gcd(under);
            return (what == 0 ? over : under).divide(divisor).longValueExact();
        }

        int see(int[] a) {
            sight(a);
            if (seen.size() == 8) {
                return -3;
            }
            seen.add(new int[] {a[0], a[1], a[2], a[3]});
            return seen.size();
        }

        int forget(int n) {
            int were = seen.size();
            seen = new ArrayList<>(seen.subList(0, n));
            return were;
        }

        boolean fits() {
            int great = greatest();
            for (int[] x : seen) {
                if (things(x[0], x[2], great).contains(x[1]) != (x[3] == 1)) {
                    return false;
                }
            }
            return true;
        }

        int ways(int what) {
            must(what == 0 || what == 1 || what >= 10 && what < 10 + people.size());
            List<int[]> were = people;
            List<Integer> fitting = new ArrayList<>();
            for (int code = 0; code < 81; code++) {
                int[] w = {code % 3, code / 3 % 3, code / 9 % 3, code / 27};
                people = new ArrayList<>();
                boolean none = false;
                for (int p = 0; p < 4; p++) {
                    if (p < were.size()) {
                        people.add(new int[] {w[p], were.get(p)[1]});
                    } else {
                        none |= w[p] != 0;
                    }
                }
                if (!none && (seen.isEmpty() || fits())) {
                    fitting.add(code);
                }
            }
            people = were;
            if (what == 0) {
                return fitting.size();
            }
            if (what == 1) {
                return fitting.isEmpty() ? -4 : fitting.get(0);
            }
            int[] power = {1, 3, 9, 27};
            int bits = 0;
            for (int code : fitting) {
                bits |= 1 << code / power[what - 10] % 3;
            }
            return bits;
        }

        int walk(int seed, int n) {
            must(n >= 1 && n <= 60);
            if (deeds.isEmpty()) {
                return -2;
            }
            BigInteger s = BigInteger.valueOf(seed);
            int done = 0;
            for (int i = 0; i < n; i++) {
                s = s.multiply(BigInteger.valueOf(1103515245)).add(BigInteger.valueOf(12345));
                s = BigInteger.valueOf(s.intValue());
                int d = s.shiftRight(16).mod(BigInteger.valueOf(32768)).intValue() % deeds.size();
                if (deeds.get(d)[5] != 2 && lacking(d, done).isEmpty()) {
                    done |= 1 << d;
                }
            }
            return done;
        }

        List<int[]> copy(List<int[]> rows) {
            List<int[]> copy = new ArrayList<>();
            for (int[] row : rows) {
                copy.add(row.clone());
            }
            return copy;
        }

        int keep(int k) {
            boolean was = images.get(k) != null;
            images.set(k, Arrays.asList(copy(people), copy(deeds), copy(seen)));
            return was ? 1 : 0;
        }

        int back(int k) {
            if (images.get(k) == null) {
                return -2;
            }
            people = copy(images.get(k).get(0));
            deeds = copy(images.get(k).get(1));
            seen = copy(images.get(k).get(2));
            return deeds.size();
        }

        int sheet(int k, int lane, int n) {
            must(k >= 0 && k < 4 && lane >= 0 && lane < 3 && n <= 40);
            try {
                sheets[k] = lane == 0 ? new byte[n] : lane == 1 ? new short[n] : (Object) new int[n];
            } catch (NegativeArraySizeException e) {
                return -14;
            }
            return 1;
        }

        int lay(int k, int i, int v) {
            must(k >= 0 && k < 4);
            try {
                if (sheets[k] instanceof byte[] row) {
                    row[i] = (byte) v;
                } else if (sheets[k] instanceof short[] row) {
                    row[i] = (short) v;
                } else {
                    ((int[]) sheets[k])[i] = v;
                }
            } catch (NullPointerException e) {
                return -11;
            } catch (ArrayIndexOutOfBoundsException e) {
                return -12;
            }
            return 1;
        }

        int read(int k, int lane, int f, int n) {
            must(k >= 0 && k < 4 && lane >= 0 && lane < 3 && n >= 0 && n <= 20);
            List<int[]> came = new ArrayList<>();
            int found = 0;
            try {
                byte[] bytes = lane == 0 ? (byte[]) sheets[k] : null;
                short[] shorts = lane == 1 ? (short[]) sheets[k] : null;
                int[] ints = lane == 2 ? (int[]) sheets[k] : null;
                for (int i = 0; i < n; i++) {
                    int at = f + i + i;
                    int d = lane == 0 ? bytes[at] : lane == 1 ? shorts[at] : ints[at];
                    int m = lane == 0 ? bytes[at + 1] : lane == 1 ? shorts[at + 1] : ints[at + 1];
                    if (d < 0 || d >= deeds.size() || m < 0 || m > 2) {
                        return -20 - i;
                    }
                    came.add(new int[] {d, m});
                }
            } catch (NullPointerException e) {
                found = 1;
            } catch (ArrayIndexOutOfBoundsException e) {
                found = 2;
            } catch (ClassCastException e) {
                found = 3;
            }
            torn = found;
            for (int[] x : came) {
                deeds.get(x[0])[5] = x[1];
            }
            return came.size();
        }

        int count(int what) {
            switch (what) {
                case 0: return Integer.bitCount(marked(1));
                case 1: return Integer.bitCount(marked(2));
                case 2: return seen.size();
                case 3: return 2 - java.util.Collections.frequency(images, null);
                case 4: return tape.length();
                case 5: return sheets[0] == null ? -4 : java.lang.reflect.Array.getLength(sheets[0]);
                case 6: return Integer.bitCount(greatest());
                default: return -1;
            }
        }
    }

    /** A text by regular expressions: each line is told by a row of what may stand there. */
    private static final class Texts {
        final String words;
        int at;
        int start;
        String token;
        int fault;
        int place;
        int hours = 4;
        boolean hoursTold;
        final List<int[]> people = new ArrayList<>();
        final List<int[]> deeds = new ArrayList<>();
        final int[] marks = new int[8];
        final int[] odds = {-1, -1, -1, -1, -1, -1, -1, -1};

        Texts(String words) {
            this.words = words;
        }

        int tell() {
            int lines = 0;
            try {
                next();
                while (!token.isEmpty()) {
                    line();
                    lines++;
                    next();
                }
                behind();
            } catch (Refused e) {
                return -10 - place;
            }
            return lines;
        }

        Refused fault(int kind, int where) {
            fault = kind;
            place = where;
            return new Refused(0);
        }

        void next() {
            while (at < words.length() && words.charAt(at) == ' ') {
                at++;
            }
            start = at;
            java.util.regex.Matcher m = java.util.regex.Pattern.compile("[a-z]+|[0-9]+|;").matcher(words);
            if (at == words.length()) {
                token = "";
                return;
            }
            m.region(at, words.length());
            if (!m.lookingAt() || m.group().matches("[0-9]{3,}")) {
                throw fault(1, at);
            }
            token = m.group();
            at = m.end();
        }

        int number(int from, int to) {
            if (!token.matches("[0-9]+")) {
                throw fault(2, start);
            }
            int n = Integer.parseInt(token);
            if (n < from || n > to) {
                throw fault(3, start);
            }
            return n;
        }

        int nextNumber(int from, int to) {
            next();
            return number(from, to);
        }

        void semicolon() {
            next();
            if (!token.equals(";")) {
                throw fault(2, start);
            }
        }

        int things() {
            List<Integer> list = new ArrayList<>();
            next();
            while (!token.equals(";")) {
                int t = number(0, 5);
                if (list.contains(t)) {
                    throw fault(4, start);
                }
                list.add(t);
                next();
            }
            int bits = 0;
            for (int t : list) {
                bits += 1 << t;
            }
            return bits;
        }

        void line() {
            switch (token) {
                case "hours":
                    if (hoursTold) {
                        throw fault(4, start);
                    }
                    hoursTold = true;
                    hours = nextNumber(2, 8);
                    semicolon();
                    break;
                case "one":
                    if (people.size() == 4) {
                        throw fault(5, start);
                    }
                    next();
                    int way = Arrays.asList("forth", "back", "other").indexOf(token);
                    if (way < 0) {
                        throw fault(2, start);
                    }
                    people.add(new int[] {way, things()});
                    break;
                case "deed":
                    if (deeds.size() == 8) {
                        throw fault(5, start);
                    }
                    int h = nextNumber(0, 7);
                    int a = nextNumber(0, 3);
                    int b = nextNumber(0, 3);
                    int t = nextNumber(0, 5);
                    deeds.add(new int[] {h, a, b, t, things(), 0, 10});
                    break;
                case "must":
                case "never":
                    int m = token.equals("must") ? 1 : 2;
                    int d = nextNumber(0, 7);
                    if (marks[d] != 0) {
                        throw fault(4, start);
                    }
                    marks[d] = m;
                    semicolon();
                    break;
                case "odds":
                    int e = nextNumber(0, 7);
                    if (odds[e] >= 0) {
                        throw fault(4, start);
                    }
                    odds[e] = nextNumber(0, 10);
                    semicolon();
                    break;
                default:
                    throw fault(2, start);
            }
        }

        void behind() {
            for (int[] x : deeds) {
                if (x[0] >= hours || x[1] >= people.size() || x[2] >= people.size()) {
                    throw fault(6, words.length());
                }
            }
            for (int d = 0; d < 8; d++) {
                boolean told = marks[d] != 0 || odds[d] >= 0;
                if (told && d >= deeds.size()) {
                    throw fault(6, words.length());
                }
                if (told) {
                    deeds.get(d)[5] = marks[d];
                    deeds.get(d)[6] = odds[d] >= 0 ? odds[d] : 10;
                }
            }
        }

        /** A text that is mostly good: lines by chance, now and then with a byte changed. */
        static String some(Random dice) {
            StringBuilder s = new StringBuilder();
            int hours = 2 + dice.nextInt(7);
            int people = 1 + dice.nextInt(4);
            // two who go against each other, have nothing at first and want for all they give: most goes round
            boolean round = dice.nextInt(3) == 0;
            people = round ? 2 : people;
            List<String> lines = new ArrayList<>();
            if (dice.nextInt(5) == 0) {
                hours = 4;
            } else {
                lines.add("hours " + hours + ";");
            }
            for (int p = 0; p < people; p++) {
                lines.add("one " + new String[] {"forth", "back", "other"}[round ? p : dice.nextInt(3)]
                        + (!round && dice.nextInt(3) == 0 ? " " + dice.nextInt(6) : "") + ";");
            }
            int deeds = round ? 7 : dice.nextInt(7);
            // few things and wants, so that many a deed goes round
            int kinds = 1 + dice.nextInt(4);
            for (int d = 0; d < deeds; d++) {
                int who = dice.nextInt(people);
                lines.add("deed " + dice.nextInt(hours) + " " + who + " " + (round ? 1 - who : dice.nextInt(people)) + " "
                        + dice.nextInt(kinds) + (round || dice.nextInt(4) != 0 ? " " + dice.nextInt(kinds) : "") + ";");
            }
            for (int d = 0; d < deeds; d++) {
                if (dice.nextInt(6) == 0) {
                    lines.add((dice.nextBoolean() ? "must " : "never ") + d + ";");
                }
                if (dice.nextInt(4) == 0) {
                    lines.add("odds " + d + " " + dice.nextInt(11) + ";");
                }
            }
            if (dice.nextInt(8) == 0) {
                java.util.Collections.shuffle(lines, dice);
            }
            if (dice.nextInt(12) == 0) {
                lines.add(lines.get(dice.nextInt(lines.size())));
            }
            for (String line : lines) {
                s.append(line);
                s.append(dice.nextInt(6) == 0 ? " " : "");
            }
            if (dice.nextInt(5) == 0) {
                int i = dice.nextInt(s.length());
                switch (dice.nextInt(4)) {
                    case 0: s.deleteCharAt(i); break;
                    case 1: s.setLength(i); break;
                    case 2: s.insert(i, "0123456789 ;aehnorst?".charAt(dice.nextInt(21))); break;
                    default: s.setCharAt(i, "0123456789 ;aehnorst?".charAt(dice.nextInt(21))); break;
                }
            }
            return s.toString();
        }
    }
}
