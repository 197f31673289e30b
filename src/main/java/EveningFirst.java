/**
 * A family some of whom live the hours of a day the other way, the deeds by which things pass
 * between them, and the days that hang together. The document ../shared/DOC.md says what each
 * call answers; the names here are the document's.
 */
public final class EveningFirst {
    public static final int BAD = -1, STATE = -2, FULL = -3, NONE = -4;

    private static final int FEWEST_HOURS = 2;
    private static final int MOST_HOURS = 8;
    private static final int FIRST_HOURS = 4;
    private static final int MOST_ONES = 4;
    private static final int MOST_DEEDS = 8;
    private static final int MOST_SEEN = 8;
    private static final int THINGS = 6;
    private static final int MOST_BYTES = 160;
    private static final int IMAGES = 2;
    private static final int SHEETS = 4;
    private static final int MOST_CELLS = 40;
    private static final int MOST_READ = 20;
    private static final int MOST_WALK = 60;

    private static final int FORTH = 0, BACK = 1, OTHER = 2;
    private static final int WAYS = 3;
    private static final int FREE = 0, MUST = 1, NEVER = 2;
    private static final int SURE = 10;
    private static final int BYTES = 0, SHORTS = 1, INTS = 2;
    private static final int NULL_FAULT = 1, INDEX_FAULT = 2, CAST_FAULT = 3, SIZE_FAULT = 4;

    /** Where a "what" goes on with a number: 10 and i. */
    private static final int AND_I = 10;
    /** In place of a ONE, where nobody is asked for. */
    private static final int NOBODY = -1;

    private final Family now;
    /** Texts are told into it and "what if" is asked of it, so that what stands is not touched. */
    private final Family trial;
    private final Bonds bonds;
    private final Reader reader;
    private final Family[] images;
    private final boolean[] kept;
    private final Sheet[] sheets;
    private int tornBy;

    public EveningFirst() {
        now = new Family();
        bonds = new Bonds();
        reader = new Reader();
        // no text is half told between two calls, so that "what if" may use the same rows
        trial = reader.told;
        images = new Family[IMAGES];
        kept = new boolean[IMAGES];
        for (int k = 0; k < IMAGES; k++) {
            images[k] = new Family();
        }
        sheets = new Sheet[SHEETS];
        for (int k = 0; k < SHEETS; k++) {
            sheets[k] = new Sheet();
        }
    }

    // ---- the text

    public int feed(int c) {
        if (c < 0 || c > 127) {
            return BAD;
        }
        if (reader.length >= MOST_BYTES) {
            return FULL;
        }
        reader.tape[reader.length] = (byte) c;
        reader.length++;
        return reader.length;
    }

    public int end(int n) {
        int had = reader.length;
        if (n < 0 || n > had) {
            return BAD;
        }
        reader.length = n;
        return had;
    }

    public int text() {
        int answer = reader.tell();
        reader.length = 0;
        if (reader.fault == 0) {
            now.become(reader.told);
            for (int k = 0; k < IMAGES; k++) {
                kept[k] = false;
            }
        }
        return answer;
    }

    public int fault() {
        return reader.fault;
    }

    public int rule(int what) {
        switch (what) {
            case 0: return now.hours;
            case 1: return now.people;
            case 2: return now.deedCount;
            default: return BAD;
        }
    }

    public int one(int p, int what) {
        if (!now.isOne(p)) {
            return BAD;
        }
        One someone = now.ones[p];
        if (what == 0) {
            return someone.way;
        }
        if (what == 1) {
            return someone.beginning;
        }
        if (what < AND_I || what >= AND_I + now.hours) {
            return BAD;
        }
        return hourAt(someone.way, what - AND_I, now.hours);
    }

    public int deed(int d, int what) {
        if (!now.isDeed(d)) {
            return BAD;
        }
        Deed some = now.deeds[d];
        switch (what) {
            case 0: return some.hour;
            case 1: return some.who;
            case 2: return some.whom;
            case 3: return some.thing;
            case 4: return some.wants;
            case 5: return some.mark;
            case 6: return some.odds;
            default: return BAD;
        }
    }

    // ---- what is changed

    public int go(int p, int w) {
        if (!now.isOne(p) || w < 0 || w >= WAYS) {
            return BAD;
        }
        int was = now.ones[p].way;
        now.ones[p].way = w;
        return was;
    }

    public int birth(int p, int some) {
        if (!now.isOne(p) || !areThings(some)) {
            return BAD;
        }
        int were = now.ones[p].beginning;
        now.ones[p].beginning = some;
        return were;
    }

    public int does(int h, int a, int b, int t, int wants) {
        if (!now.isHour(h) || !now.isOne(a) || !now.isOne(b) || !isThing(t) || !areThings(wants)) {
            return BAD;
        }
        if (now.deedCount >= MOST_DEEDS) {
            return FULL;
        }
        Deed more = now.deeds[now.deedCount];
        more.hour = h;
        more.who = a;
        more.whom = b;
        more.thing = t;
        more.wants = wants;
        more.mark = FREE;
        more.odds = SURE;
        now.deedCount++;
        return now.deedCount;
    }

    public int shift(int d, int h) {
        if (!now.isDeed(d) || !now.isHour(h)) {
            return BAD;
        }
        int was = now.deeds[d].hour;
        now.deeds[d].hour = h;
        return was;
    }

    public int mark(int d, int m) {
        if (!now.isMarkOf(d, m)) {
            return BAD;
        }
        int was = now.deeds[d].mark;
        now.deeds[d].mark = m;
        return was;
    }

    public int odd(int d, int v) {
        if (!now.isDeed(d) || v < 0 || v > SURE) {
            return BAD;
        }
        int were = now.deeds[d].odds;
        now.deeds[d].odds = v;
        return were;
    }

    // ---- a day

    public int has(int p, int h, int day) {
        if (!now.isOne(p) || !now.isHour(h) || !now.isDay(day)) {
            return BAD;
        }
        return now.thingsHad(p, h, day);
    }

    public int hangs(int day) {
        if (!now.isDay(day)) {
            return BAD;
        }
        bonds.look(now);
        return bonds.hold(day) ? 1 : 0;
    }

    public int lacks(int day, int what) {
        if (!now.isDay(day) || isNoHalf(what)) {
            return BAD;
        }
        bonds.look(now);
        for (int d = 0; d < now.deedCount; d++) {
            int lacking = bit(day, d) ? bonds.lackingFor(d, day) : 0;
            if (lacking != 0) {
                return what == 0 ? d : Integer.numberOfTrailingZeros(lacking);
            }
        }
        return NONE;
    }

    // ---- all days

    public int days(int what) {
        if (what < 0 || what > 4) {
            return BAD;
        }
        bonds.look(now);
        int many = 0;
        int least = NONE;
        int last = NONE;
        int inAll = bonds.all;
        int inSome = 0;
        for (int day = 0; day <= bonds.all; day++) {
            if (bonds.allow(day)) {
                least = many == 0 ? day : least;
                last = day;
                inAll &= day;
                inSome |= day;
                many++;
            }
        }
        if (what == 0) {
            return many;
        }
        if (many == 0) {
            return NONE;
        }
        switch (what) {
            case 1: return least;
            case 2: return last;
            case 3: return inAll;
            default: return bonds.all & ~inSome;
        }
    }

    public int greatest() {
        bonds.look(now);
        return bonds.greatestWithout(bonds.nevers);
    }

    public int made(int what) {
        if (what < 0 || what > 2) {
            return BAD;
        }
        bonds.look(now);
        int great = bonds.greatestWithout(bonds.nevers);
        switch (what) {
            case 0: return bonds.madeOf(great);
            case 1: return great & ~bonds.madeOf(great);
            default: return bonds.stepsOf(great);
        }
    }

    public int stop(int what) {
        if (isNoHalf(what)) {
            return BAD;
        }
        bonds.look(now);
        int which = NONE;
        int fewest = bonds.goingRound(bonds.nevers);
        for (int d = 0; d < now.deedCount; d++) {
            int many = bonds.goingRound(bonds.nevers | 1 << d);
            if (many < fewest) {
                fewest = many;
                which = d;
            }
        }
        if (which == NONE) {
            return NONE;
        }
        return what == 0 ? which : fewest;
    }

    // ---- plans

    public int reach(int p, int t, int h, int what) {
        if (isNoSight(p, t, h) || isNoHalf(what)) {
            return BAD;
        }
        bonds.look(now);
        int best = NONE;
        int fewest = MOST_DEEDS + 1;
        for (int day = 0; day <= bonds.all; day++) {
            int many = Integer.bitCount(day);
            if (many < fewest && bonds.allow(day) && bit(now.thingsHad(p, h, day), t)) {
                best = day;
                fewest = many;
            }
        }
        if (best == NONE) {
            return NONE;
        }
        return what == 0 ? fewest : best;
    }

    public int better(int d, int what) {
        if (!now.isDeed(d) || isNoHalf(what)) {
            return BAD;
        }
        int most = sizeOfGreatest(now);
        int where = NONE;
        trial.become(now);
        for (int h = 0; h < now.hours; h++) {
            trial.deeds[d].hour = h;
            int many = sizeOfGreatest(trial);
            if (many > most) {
                most = many;
                where = h;
            }
        }
        if (where == NONE) {
            return NONE;
        }
        return what == 0 ? where : most;
    }

    public int common(int p, int q, int t) {
        if (!now.isOne(p) || !now.isOne(q) || p == q || !isThing(t)) {
            return BAD;
        }
        bonds.look(now);
        int great = bonds.greatestWithout(bonds.nevers);
        int hours = 0;
        for (int h = 0; h < now.hours; h++) {
            if (bit(now.thingsHad(p, h, great) & now.thingsHad(q, h, great), t)) {
                hours |= 1 << h;
            }
        }
        return hours;
    }

    // ---- odds

    public long odds(int what) {
        if (isNoHalf(what)) {
            return BAD;
        }
        return halfOf(weightOfDays(NOBODY, 0, 0), what);
    }

    public long luck(int p, int t, int h, int what) {
        if (isNoSight(p, t, h) || isNoHalf(what)) {
            return BAD;
        }
        return halfOf(weightOfDays(p, t, h), what);
    }

    // ---- seen

    public int see(int p, int t, int h, boolean is) {
        if (isNoSight(p, t, h)) {
            return BAD;
        }
        if (now.seenCount >= MOST_SEEN) {
            return FULL;
        }
        Sight more = now.seen[now.seenCount];
        more.who = p;
        more.thing = t;
        more.hour = h;
        more.is = is;
        now.seenCount++;
        return now.seenCount;
    }

    public int forget(int n) {
        int were = now.seenCount;
        if (n < 0 || n > were) {
            return BAD;
        }
        now.seenCount = n;
        return were;
    }

    public int ways(int what) {
        boolean ofOne = what >= AND_I && what < AND_I + now.people;
        if (what != 0 && what != 1 && !ofOne) {
            return BAD;
        }
        trial.become(now);
        int many = 0;
        int first = NONE;
        int can = 0;
        int codes = trial.wayCodes();
        for (int code = 0; code < codes; code++) {
            trial.goBy(code);
            if (isFit(trial)) {
                first = many == 0 ? code : first;
                many++;
                if (ofOne) {
                    can |= 1 << trial.ones[what - AND_I].way;
                }
            }
        }
        if (what == 0) {
            return many;
        }
        return what == 1 ? first : can;
    }

    // ---- by a seed

    public int walk(int seed, int n) {
        if (n < 1 || n > MOST_WALK) {
            return BAD;
        }
        int many = now.deedCount;
        if (many == 0) {
            return STATE;
        }
        bonds.look(now);
        int turned = seed;
        int done = 0;
        for (int i = 0; i < n; i++) {
            turned = turned * 1103515245 + 12345;
            int d = (turned >>> 16 & 0x7fff) % many;
            if (!bit(bonds.nevers, d) && bonds.lackingFor(d, done) == 0) {
                done |= 1 << d;
            }
        }
        return done;
    }

    // ---- images, sheets

    public int keep(int k) {
        if (k < 0 || k >= IMAGES) {
            return BAD;
        }
        int was = kept[k] ? 1 : 0;
        images[k].become(now);
        kept[k] = true;
        return was;
    }

    public int back(int k) {
        if (k < 0 || k >= IMAGES) {
            return BAD;
        }
        if (!kept[k]) {
            return STATE;
        }
        // an image's HOURS are those that stand: only text() changes them, and it takes images away
        now.become(images[k]);
        return now.deedCount;
    }

    public int sheet(int k, int lane, int n) {
        if (isNoSheet(k) || isNoLane(lane) || n > MOST_CELLS) {
            return BAD;
        }
        if (n < 0) {
            return -10 - SIZE_FAULT;
        }
        sheets[k].renew(lane, n);
        return 1;
    }

    public int lay(int k, int i, int v) {
        if (isNoSheet(k)) {
            return BAD;
        }
        int found = sheets[k].faultOfCell(i);
        if (found != 0) {
            return -10 - found;
        }
        sheets[k].put(i, v);
        return 1;
    }

    public int read(int k, int lane, int f, int n) {
        if (isNoSheet(k) || isNoLane(lane) || n < 0 || n > MOST_READ) {
            return BAD;
        }
        Sheet from = sheets[k];
        int found = from.faultOfLane(lane);
        int whole = 0;
        for (int i = 0; i < n && found == 0; i++) {
            int at = f + 2 * i;
            found = from.faultOfPair(at);
            if (found == 0) {
                if (!now.isMarkOf(from.cells[at], from.cells[at + 1])) {
                    return -20 - i;
                }
                whole++;
            }
        }
        // only now, since one that is BAD keeps those ahead of it from coming
        for (int i = 0; i < whole; i++) {
            int at = f + 2 * i;
            now.deeds[from.cells[at]].mark = from.cells[at + 1];
        }
        tornBy = found;
        return whole;
    }

    public int torn() {
        return tornBy;
    }

    public int count(int what) {
        switch (what) {
            case 0: return marked(MUST);
            case 1: return marked(NEVER);
            case 2: return now.seenCount;
            case 3: return (kept[0] ? 1 : 0) + (kept[1] ? 1 : 0);
            case 4: return reader.length;
            case 5: return sheets[0].isNothing() ? NONE : sheets[0].length;
            case 6: return sizeOfGreatest(now);
            default: return BAD;
        }
    }

    // ---- what several calls need

    private static boolean bit(int bits, int i) {
        return (bits >> i & 1) != 0;
    }

    private static boolean isThing(int t) {
        return t >= 0 && t < THINGS;
    }

    private static boolean areThings(int bits) {
        return bits >= 0 && bits < 1 << THINGS;
    }

    private static boolean isNoSheet(int k) {
        return k < 0 || k >= SHEETS;
    }

    private static boolean isNoLane(int lane) {
        return lane < BYTES || lane > INTS;
    }

    /** Many calls answer in two halves, what 0 and what 1. */
    private static boolean isNoHalf(int what) {
        return what != 0 && what != 1;
    }

    private boolean isNoSight(int p, int t, int h) {
        return !now.isOne(p) || !isThing(t) || !now.isHour(h);
    }

    private static int hourAt(int way, int place, int hours) {
        switch (way) {
            case FORTH:
                return place;
            case BACK:
                return hours - 1 - place;
            default:
                return 2 * place < hours ? 2 * place : 2 * (hours - 1 - place) + 1;
        }
    }

    private static int placeOf(int way, int hour, int hours) {
        switch (way) {
            case FORTH:
                return hour;
            case BACK:
                return hours - 1 - hour;
            default:
                return hour % 2 == 0 ? hour / 2 : hours - 1 - hour / 2;
        }
    }

    private int marked(int m) {
        int many = 0;
        for (int d = 0; d < now.deedCount; d++) {
            if (now.deeds[d].mark == m) {
                many++;
            }
        }
        return many;
    }

    private int sizeOfGreatest(Family family) {
        bonds.look(family);
        return Integer.bitCount(bonds.greatestWithout(bonds.nevers));
    }

    private boolean isFit(Family family) {
        bonds.look(family);
        int great = bonds.greatestWithout(bonds.nevers);
        for (int i = 0; i < family.seenCount; i++) {
            Sight sight = family.seen[i];
            if (bit(family.thingsHad(sight.who, sight.hour, great), sight.thing) != sight.is) {
                return false;
            }
        }
        return true;
    }

    /** Of all days, 10 to the number of deeds, those that hang together and (if p is somebody) give p the thing. */
    private long weightOfDays(int p, int t, int h) {
        bonds.look(now);
        long sum = 0;
        for (int day = 0; day <= bonds.all; day++) {
            if (bonds.hold(day) && (p == NOBODY || bit(now.thingsHad(p, h, day), t))) {
                sum += weightOf(day);
            }
        }
        return sum;
    }

    private long weightOf(int day) {
        long weight = 1;
        for (int d = 0; d < now.deedCount; d++) {
            int tenths = now.deeds[d].tenths();
            weight *= bit(day, d) ? tenths : SURE - tenths;
        }
        return weight;
    }

    /** The numerator (what 0) or the denominator of a weight, in lowest terms. */
    private long halfOf(long weight, int what) {
        long whole = 1;
        for (int d = 0; d < now.deedCount; d++) {
            whole *= SURE;
        }
        long divisor = greatestDivisor(whole, weight);
        long half = what == 0 ? weight : whole;
        return divisor > 0 ? half / divisor : half;
    }

    private static long greatestDivisor(long a, long b) {
        long left = a;
        long right = b;
        for (int i = 0; i < 100 && right != 0; i++) {
            long rest = left % right;
            left = right;
            right = rest;
        }
        return left;
    }

    private static final class One {
        int way;
        int beginning;
    }

    private static final class Deed {
        int hour;
        int who;
        int whom;
        int thing;
        int wants;
        int mark;
        int odds = SURE;

        void become(Deed other) {
            hour = other.hour;
            who = other.who;
            whom = other.whom;
            thing = other.thing;
            wants = other.wants;
            mark = other.mark;
            odds = other.odds;
        }

        /** How likely it is done: a MARK overrules the ODDS. */
        int tenths() {
            if (mark == MUST) {
                return SURE;
            }
            return mark == NEVER ? 0 : odds;
        }
    }

    private static final class Sight {
        int who;
        int thing;
        int hour;
        boolean is;
    }

    /** All that a text tells and that an image keeps. Its rows are made once and used again. */
    private static final class Family {
        int hours = FIRST_HOURS;
        int people;
        int deedCount;
        int seenCount;
        final One[] ones = new One[MOST_ONES];
        final Deed[] deeds = new Deed[MOST_DEEDS];
        final Sight[] seen = new Sight[MOST_SEEN];

        Family() {
            for (int p = 0; p < MOST_ONES; p++) {
                ones[p] = new One();
            }
            for (int d = 0; d < MOST_DEEDS; d++) {
                deeds[d] = new Deed();
            }
            for (int i = 0; i < MOST_SEEN; i++) {
                seen[i] = new Sight();
            }
        }

        /** As new. Marks and odds of all rows go too, since a text may tell them ahead of their deed. */
        void empty() {
            hours = FIRST_HOURS;
            people = 0;
            deedCount = 0;
            seenCount = 0;
            for (int d = 0; d < MOST_DEEDS; d++) {
                deeds[d].mark = FREE;
                deeds[d].odds = SURE;
            }
        }

        void become(Family other) {
            hours = other.hours;
            people = other.people;
            deedCount = other.deedCount;
            seenCount = other.seenCount;
            for (int p = 0; p < MOST_ONES; p++) {
                ones[p].way = other.ones[p].way;
                ones[p].beginning = other.ones[p].beginning;
            }
            for (int d = 0; d < MOST_DEEDS; d++) {
                deeds[d].become(other.deeds[d]);
            }
            for (int i = 0; i < MOST_SEEN; i++) {
                seen[i].who = other.seen[i].who;
                seen[i].thing = other.seen[i].thing;
                seen[i].hour = other.seen[i].hour;
                seen[i].is = other.seen[i].is;
            }
        }

        boolean isOne(int p) {
            return p >= 0 && p < people;
        }

        boolean isHour(int h) {
            return h >= 0 && h < hours;
        }

        boolean isDeed(int d) {
            return d >= 0 && d < deedCount;
        }

        boolean isDay(int day) {
            return day >= 0 && day < 1 << deedCount;
        }

        boolean isMarkOf(int d, int m) {
            return isDeed(d) && m >= FREE && m <= NEVER;
        }

        boolean isEarlier(int p, int hour, int than) {
            int way = ones[p].way;
            return placeOf(way, hour, hours) < placeOf(way, than, hours);
        }

        int thingsHad(int p, int h, int day) {
            int had = ones[p].beginning;
            for (int d = 0; d < deedCount; d++) {
                Deed some = deeds[d];
                if (bit(day, d) && some.whom == p && isEarlier(p, some.hour, h)) {
                    had |= 1 << some.thing;
                }
            }
            return had;
        }

        int wayCodes() {
            int codes = 1;
            for (int p = 0; p < people; p++) {
                codes *= WAYS;
            }
            return codes;
        }

        void goBy(int code) {
            int rest = code;
            for (int p = 0; p < people; p++) {
                ones[p].way = rest % WAYS;
                rest /= WAYS;
            }
        }

        /** Whether its deeds name only hours and people that there are. */
        boolean isWhole() {
            for (int d = 0; d < deedCount; d++) {
                if (!isHour(deeds[d].hour) || !isOne(deeds[d].who) || !isOne(deeds[d].whom)) {
                    return false;
                }
            }
            return true;
        }
    }

    /**
     * Which deeds can bring a doer what his deed wants. It is found once for a family, since
     * hundreds of days are then weighed by it.
     */
    private static final class Bonds {
        int all;
        int musts;
        int nevers;
        private int many;
        /** By deed: THINGS it WANTS that its doer does not have at his beginning. */
        private final int[] missing = new int[MOST_DEEDS];
        /** By deed and thing: deeds that give its doer the thing EARLIER. */
        private final int[] bringers = new int[MOST_DEEDS * THINGS];

        void look(Family family) {
            many = family.deedCount;
            all = (1 << many) - 1;
            musts = 0;
            nevers = 0;
            for (int d = 0; d < many; d++) {
                Deed some = family.deeds[d];
                missing[d] = some.wants & ~family.ones[some.who].beginning;
                musts |= some.mark == MUST ? 1 << d : 0;
                nevers |= some.mark == NEVER ? 1 << d : 0;
                findBringers(family, d);
            }
        }

        private void findBringers(Family family, int d) {
            int row = d * THINGS;
            for (int t = 0; t < THINGS; t++) {
                bringers[row + t] = 0;
            }
            Deed wanting = family.deeds[d];
            for (int e = 0; e < many; e++) {
                Deed giving = family.deeds[e];
                if (giving.whom == wanting.who && family.isEarlier(wanting.who, giving.hour, wanting.hour)) {
                    bringers[row + giving.thing] |= 1 << e;
                }
            }
        }

        /** THINGS that a deed WANTS and its doer does not have by the day. */
        int lackingFor(int d, int day) {
            int lacking = missing[d];
            if (lacking == 0) {
                return 0;
            }
            int row = d * THINGS;
            for (int t = 0; t < THINGS; t++) {
                if ((bringers[row + t] & day) != 0) {
                    lacking &= ~(1 << t);
                }
            }
            return lacking;
        }

        /** Those among some deeds that lack nothing by the day. */
        private int ableBy(int day, int among) {
            int able = 0;
            for (int d = 0; d < many; d++) {
                if (bit(among, d) && lackingFor(d, day) == 0) {
                    able |= 1 << d;
                }
            }
            return able;
        }

        boolean hold(int day) {
            return ableBy(day, day) == day;
        }

        boolean allow(int day) {
            return (day & musts) == musts && (day & nevers) == 0 && hold(day);
        }

        /** What lacks something even by all that is left can be in no day, so it falls away. */
        int greatestWithout(int refused) {
            int left = all & ~refused;
            for (int i = 0; i < MOST_DEEDS; i++) {
                int able = ableBy(left, left);
                if (able == left) {
                    return left;
                }
                left = able;
            }
            return left;
        }

        int madeOf(int great) {
            int made = 0;
            for (int i = 0; i < MOST_DEEDS; i++) {
                made = ableBy(made, great);
            }
            return made;
        }

        int stepsOf(int great) {
            int made = 0;
            for (int i = 0; i < MOST_DEEDS; i++) {
                int next = ableBy(made, great);
                if (next == made) {
                    return i;
                }
                made = next;
            }
            return MOST_DEEDS;
        }

        int goingRound(int refused) {
            int great = greatestWithout(refused);
            return Integer.bitCount(great & ~madeOf(great));
        }
    }

    /** THE TAPE, and how it is read token by token. */
    private static final class Reader {
        private static final int MOST_FIGURES = 2;
        private static final int AT_END = 0, NAME = 1, NUMBER = 2, SEMICOLON = 3;
        private static final int NO_TOKEN = 1, OUT_OF_PLACE = 2, OUT_OF_BOUNDS = 3, TOLD_TWICE = 4, TOO_MANY = 5,
                IS_NOT = 6;

        final byte[] tape = new byte[MOST_BYTES];
        int length;
        int fault;
        private int place;
        final Family told = new Family();
        private boolean hoursTold;
        private int marksTold;
        private int oddsTold;
        /** The token at hand; the next one is looked for from past on. */
        private int kind;
        private int start;
        private int past;
        private int number;

        /** How many lines, or -10 less the place of the fault. */
        int tell() {
            told.empty();
            hoursTold = false;
            marksTold = 0;
            oddsTold = 0;
            fault = 0;
            past = 0;
            int lines = 0;
            while (lines <= MOST_BYTES && takeToken() && kind != AT_END && takeLine()) {
                lines++;
            }
            int deedsTold = (1 << told.deedCount) - 1;
            if (fault == 0 && (!told.isWhole() || ((marksTold | oddsTold) & ~deedsTold) != 0)) {
                refuse(IS_NOT, length);
            }
            return fault == 0 ? lines : -10 - place;
        }

        private boolean takeLine() {
            if (isName("hours")) {
                return takeHours();
            }
            if (isName("one")) {
                return takeOne();
            }
            if (isName("deed")) {
                return takeDeed();
            }
            if (isName("must")) {
                return takeMark(MUST);
            }
            if (isName("never")) {
                return takeMark(NEVER);
            }
            if (isName("odds")) {
                return takeOdds();
            }
            return refuse(OUT_OF_PLACE, start);
        }

        private boolean takeHours() {
            if (hoursTold) {
                return refuse(TOLD_TWICE, start);
            }
            hoursTold = true;
            if (!takeNumber(FEWEST_HOURS, MOST_HOURS)) {
                return false;
            }
            told.hours = number;
            return takeSemicolon();
        }

        private boolean takeOne() {
            if (told.people >= MOST_ONES) {
                return refuse(TOO_MANY, start);
            }
            One more = told.ones[told.people];
            told.people++;
            if (!takeToken()) {
                return false;
            }
            if (isName("forth")) {
                more.way = FORTH;
            } else if (isName("back")) {
                more.way = BACK;
            } else if (isName("other")) {
                more.way = OTHER;
            } else {
                return refuse(OUT_OF_PLACE, start);
            }
            more.beginning = takeThings();
            return fault == 0;
        }

        private boolean takeDeed() {
            if (told.deedCount >= MOST_DEEDS) {
                return refuse(TOO_MANY, start);
            }
            Deed more = told.deeds[told.deedCount];
            told.deedCount++;
            if (!takeNumber(0, MOST_HOURS - 1)) {
                return false;
            }
            more.hour = number;
            if (!takeNumber(0, MOST_ONES - 1)) {
                return false;
            }
            more.who = number;
            if (!takeNumber(0, MOST_ONES - 1)) {
                return false;
            }
            more.whom = number;
            if (!takeNumber(0, THINGS - 1)) {
                return false;
            }
            more.thing = number;
            more.wants = takeThings();
            return fault == 0;
        }

        private boolean takeMark(int m) {
            if (!takeNumber(0, MOST_DEEDS - 1)) {
                return false;
            }
            if (bit(marksTold, number)) {
                return refuse(TOLD_TWICE, start);
            }
            marksTold |= 1 << number;
            told.deeds[number].mark = m;
            return takeSemicolon();
        }

        private boolean takeOdds() {
            if (!takeNumber(0, MOST_DEEDS - 1)) {
                return false;
            }
            if (bit(oddsTold, number)) {
                return refuse(TOLD_TWICE, start);
            }
            oddsTold |= 1 << number;
            Deed whose = told.deeds[number];
            if (!takeNumber(0, SURE)) {
                return false;
            }
            whose.odds = number;
            return takeSemicolon();
        }

        /** Things up to the ; as bits; what it answers behind a fault is of no use. */
        private int takeThings() {
            int things = 0;
            // one round more than there are things: the last can only be the ; or a fault
            for (int i = 0; i <= THINGS; i++) {
                if (!takeToken() || kind == SEMICOLON || !isNumber(0, THINGS - 1)) {
                    return things;
                }
                if (bit(things, number)) {
                    refuse(TOLD_TWICE, start);
                    return things;
                }
                things |= 1 << number;
            }
            return things;
        }

        private boolean takeNumber(int from, int to) {
            return takeToken() && isNumber(from, to);
        }

        private boolean takeSemicolon() {
            return takeToken() && (kind == SEMICOLON || refuse(OUT_OF_PLACE, start));
        }

        private boolean isNumber(int from, int to) {
            if (kind != NUMBER) {
                return refuse(OUT_OF_PLACE, start);
            }
            return number >= from && number <= to || refuse(OUT_OF_BOUNDS, start);
        }

        private boolean isName(String word) {
            if (kind != NAME || past - start != word.length()) {
                return false;
            }
            for (int i = 0; i < word.length(); i++) {
                if (tape[start + i] != word.charAt(i)) {
                    return false;
                }
            }
            return true;
        }

        private boolean takeToken() {
            start = past;
            while (start < length && tape[start] == ' ') {
                start++;
            }
            past = start;
            if (start == length) {
                kind = AT_END;
                return true;
            }
            if (tape[start] == ';') {
                kind = SEMICOLON;
                past++;
                return true;
            }
            while (past < length && tape[past] >= 'a' && tape[past] <= 'z') {
                past++;
            }
            if (past > start) {
                kind = NAME;
                return true;
            }
            kind = NUMBER;
            number = takeFigures();
            return past > start && past <= start + MOST_FIGURES || refuse(NO_TOKEN, start);
        }

        /** The number of the figures that stand there; of too many, which are refused, it is of no use. */
        private int takeFigures() {
            int value = 0;
            while (past < length && tape[past] >= '0' && tape[past] <= '9') {
                value = 10 * value + tape[past] - '0';
                past++;
            }
            return value;
        }

        private boolean refuse(int by, int where) {
            fault = by;
            place = where;
            return false;
        }
    }

    /** A row of cells of a lane, or nothing. Faults are looked for ahead, so that the machine has none to find. */
    private static final class Sheet {
        private static final int NOTHING = -1;

        int length = NOTHING;
        final int[] cells = new int[MOST_CELLS];
        private int lane;

        boolean isNothing() {
            return length == NOTHING;
        }

        void renew(int newLane, int n) {
            lane = newLane;
            length = n;
            for (int i = 0; i < MOST_CELLS; i++) {
                cells[i] = 0;
            }
        }

        /** Nothing may be taken as of any lane: it is found when a cell is asked for. */
        int faultOfLane(int asOf) {
            return isNothing() || lane == asOf ? 0 : CAST_FAULT;
        }

        int faultOfCell(int i) {
            if (isNothing()) {
                return NULL_FAULT;
            }
            return i >= 0 && i < length ? 0 : INDEX_FAULT;
        }

        int faultOfPair(int i) {
            int first = faultOfCell(i);
            return first != 0 ? first : faultOfCell(i + 1);
        }

        void put(int i, int v) {
            switch (lane) {
                case BYTES:
                    cells[i] = (byte) v;
                    break;
                case SHORTS:
                    cells[i] = (short) v;
                    break;
                default:
                    cells[i] = v;
                    break;
            }
        }
    }
}
