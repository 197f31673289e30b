import java.util.function.ToLongFunction;

/** The boundaries that the document's "Terms" name for the text, and those of promises 1 to 5. */
public final class BoundsOfTextTest {
    private static final String ONE = "one forth;";
    private static final String DEED = "deed 0 0 0 0;";

    public static void main(String[] args) {
        aNewObject();
        feed();
        tapeOf160();
        end();
        text();
        fault();
        numbers();
        bytes();
        tokens();
        ends();
        outOfPlace();
        toldTwice();
        tooMany();
        thereIsNot();
        firstMet();
        tellsAll();
        staysAsItWas();
        Checks.end("BoundsOfTextTest");
    }

    private static void aNewObject() {
        Checks.says("Four HOURS, nobody, no DEEDS; SHEETS of nothing.");
        EveningFirst x = new EveningFirst();
        Checks.due("rule(0)", x.rule(0), 4);
        Checks.due("rule(1)", x.rule(1), 0);
        Checks.due("rule(2)", x.rule(2), 0);
        Checks.due("one(0, 0)", x.one(0, 0), -1);
        Checks.due("deed(0, 0)", x.deed(0, 0), -1);
        Checks.due("fault()", x.fault(), 0);
        Checks.due("torn()", x.torn(), 0);
        Checks.due("count(4)", x.count(4), 0);
        for (int k = 0; k < 4; k++) {
            Checks.due("lay(" + k + ", 0, 1)", x.lay(k, 0, 1), -11);
        }
        EveningFirst y = new EveningFirst();
        x.sheet(0, 0, 3);
        Checks.due("another object has its own SHEETS", y.count(5), -4);
        Checks.says("An object is used for at most 512 calls after it has been made");
        EveningFirst z = new EveningFirst();
        for (int i = 1; i < 512; i++) {
            z.end(0);
        }
        Checks.due("feed(97), the 512th call", z.feed(97), 1);
    }

    // ---- the tape

    private static EveningFirst fed(int n) {
        EveningFirst x = new EveningFirst();
        for (int i = 0; i < n; i++) {
            x.feed(' ');
        }
        return x;
    }

    private static EveningFirst richWithTape(int n) {
        EveningFirst x = new EveningFirst();
        x.sheet(0, 1, 2);
        for (int i = 0; i < n; i++) {
            x.feed(i < 8 ? "hours 7;".charAt(i) : ' ');
        }
        return x;
    }

    private static void feed() {
        Checks.says("A byte (0 to 127) comes behind THE TAPE: how many it has. BAD; FULL: more than 160.");
        for (int c = 0; c < 128; c++) {
            EveningFirst x = new EveningFirst();
            Checks.due("feed(" + c + ")", x.feed(c), 1);
            Checks.due("count(4)", x.count(4), 1);
        }
        Checks.badOutside("feed", Checks::rich, 0, 127, EveningFirst::feed);
        EveningFirst x = new EveningFirst();
        for (int i = 1; i <= 160; i++) {
            Checks.due("feed(32), the " + i + "th", x.feed(32), i);
        }
        for (int n : new int[] {158, 159}) {
            Checks.due("feed(0) behind " + n, fed(n).feed(0), n + 1);
        }
        for (int c : new int[] {0, 32, 97, 127}) {
            Checks.refused("feed(" + c + ") behind 160", () -> richWithTape(160), y -> y.feed(c), -3);
        }
        Checks.says("the first that fits");
        Checks.badOutside("feed behind 160", () -> richWithTape(160), 0, 127, EveningFirst::feed);
        EveningFirst full = richWithTape(160);
        full.feed(32);
        Checks.due("end(159) behind FULL", full.end(159), 160);
        Checks.due("feed(32) behind end(159)", full.feed(32), 160);
        Checks.due("feed(32) again", full.feed(32), -3);
        Checks.due("text()", full.text(), 1);
        Checks.due("feed(32) behind a text", full.feed(32), 1);
    }

    private static void tapeOf160() {
        Checks.says("THE TAPE has 160 bytes, places from 0.");
        String blanks = Checks.times(160, " ");
        Checks.taken(blanks, 0);
        EveningFirst x = Checks.taken(blanks.substring(8) + "hours 7;", 1);
        Checks.due("rule(0)", x.rule(0), 7);
        Checks.taken("hours 7;" + blanks.substring(8), 1);
        Checks.taken(Checks.times(4, "one back;") + Checks.times(8, "deed0 0 0 0;") + "must0;must1;must2;must3;    ", 16);
        Checks.faulty("?" + blanks.substring(1), 1, 0);
        Checks.faulty(blanks.substring(2) + "? ", 1, 158);
        Checks.faulty(blanks.substring(1) + "?", 1, 159);
        Checks.faulty(Checks.times(160, "0"), 1, 0);
        Checks.faulty(Checks.times(160, "a"), 2, 0);
        Checks.faulty(Checks.times(160, ";"), 2, 0);
        Checks.faulty(blanks.substring(1) + ";", 2, 159);
        Checks.faulty(blanks.substring(7) + "hours 3", 2, 160);
        Checks.faulty("hours 3" + blanks.substring(7), 2, 160);
        Checks.faulty("hours 3" + blanks.substring(8), 2, 159);
        Checks.faulty("must 0;" + blanks.substring(7), 6, 160);
        Checks.faulty("must 0;" + blanks.substring(8), 6, 159);
    }

    private static void end() {
        Checks.says("THE TAPE keeps its first n bytes: how many it had. BAD.");
        for (int had : new int[] {0, 1, 2, 159, 160}) {
            for (int n : new int[] {0, 1, had / 2, had - 1, had}) {
                if (n >= 0 && n <= had) {
                    EveningFirst x = fed(had);
                    Checks.due("end(" + n + ") of " + had, x.end(n), had);
                    Checks.due("count(4) behind it", x.count(4), n);
                }
            }
            Checks.badOutside("end of " + had, () -> richWithTape(had), 0, had, EveningFirst::end);
        }
        Checks.badOutside("end", Checks::rich, 0, 14, EveningFirst::end);
        EveningFirst x = new EveningFirst();
        Checks.feed(x, "hours 6;hours 7;");
        x.end(8);
        Checks.due("text(), the first 8 are kept", x.text(), 1);
        Checks.due("rule(0)", x.rule(0), 6);
        Checks.feed(x, "hours 6;");
        x.end(6);
        Checks.feed(x, "3;");
        Checks.due("text(), what is fed comes behind", x.text(), 1);
        Checks.due("rule(0)", x.rule(0), 3);
    }

    // ---- what a text answers

    private static void text() {
        Checks.says("THE TAPE (empty then) tells all: how many lines; -10 less the place of its FAULT: that which was told stays.");
        Checks.taken("", 0);
        Checks.taken("hours 2;", 1);
        Checks.taken("hours 2;" + ONE, 2);
        EveningFirst x = Checks.told("hours 8;one forth 1;" + DEED);
        Checks.due("text() of an empty TAPE", x.text(), 0);
        Checks.due("rule(0): all is told by it", x.rule(0), 4);
        Checks.due("rule(1): all is told by it", x.rule(1), 0);
        Checks.due("rule(2): all is told by it", x.rule(2), 0);
        Checks.due("one(0, 0)", x.one(0, 0), -1);
        Checks.due("deed(0, 0)", x.deed(0, 0), -1);
        Checks.faulty("x", 2, 0);
        Checks.faulty(" x", 2, 1);
        Checks.feed(x, "x");
        x.text();
        Checks.due("text(): a TAPE with a FAULT is empty, too", x.text(), 0);
    }

    private static void fault() {
        Checks.says("The FAULT of the latest text(); 0.");
        EveningFirst x = new EveningFirst();
        Checks.due("fault() ahead of any text", x.fault(), 0);
        String[] words = {"?", "x", "hours 9;", "hours 3;hours", Checks.times(4, ONE) + "one", "must 0;"};
        for (int i = 0; i < words.length; i++) {
            Checks.feed(x, words[i]);
            Checks.due("fault() while the text is fed", x.fault(), i);
            x.text();
            Checks.due("fault() of '" + words[i] + "'", x.fault(), i + 1);
            Checks.due("fault() again", x.fault(), i + 1);
        }
        x.end(0);
        x.keep(0);
        x.back(0);
        Checks.due("fault() behind other calls", x.fault(), 6);
        x.text();
        Checks.due("fault() of a text that is taken", x.fault(), 0);
    }

    // ---- numbers

    /** Each number from 0 to 99 at one place of a text: those in the bounds are taken, others are FAULT 3 there. */
    private static void numbersAt(String ahead, String behind, int from, int to, int lines, ToLongFunction<EveningFirst> shows) {
        for (int n = 0; n < 100; n++) {
            for (String figures : new String[] {"" + n, "0" + n}) {
                if (figures.length() > 2) {
                    continue;
                }
                if (n >= from && n <= to) {
                    EveningFirst x = Checks.taken(ahead + figures + behind, lines);
                    Checks.due("what '" + ahead + figures + behind + "' tells", shows.applyAsLong(x), n);
                } else {
                    Checks.faulty(ahead + figures + behind, 3, ahead.length());
                }
            }
        }
        for (String figures : new String[] {"000", "00" + from, "0" + to + "0", "100", "999", "2147483648", "4294967298"}) {
            Checks.faulty(ahead + figures + behind, 1, ahead.length());
        }
    }

    private static long only(long bits) {
        return Long.bitCount(bits) == 1 ? Long.numberOfTrailingZeros(bits) : -1;
    }

    private static long marked(EveningFirst x, int m) {
        long bits = 0;
        for (int d = 0; d < 8; d++) {
            bits |= x.deed(d, 5) == m ? 1 << d : 0;
        }
        return only(bits);
    }

    private static void numbers() {
        Checks.says("HOURS of the day: 2 to 8 (4 at first), 0 on. NUMBERS (1 or 2 figures). 3 a NUMBER out of its bounds.");
        numbersAt("hours ", ";", 2, 8, 1, x -> x.rule(0));
        Checks.says("each a ONE with a WAY and THINGS (0 to 5) that he has at his beginning (bits; none)");
        numbersAt("one back ", ";", 0, 5, 1, x -> only(x.one(0, 1)));
        Checks.due("one(0, 1) of none", Checks.told("one back;").one(0, 1), 0);
        Checks.due("one(0, 1) of all", Checks.told("one back 0 1 2 3 4 5;").one(0, 1), 63);
        Checks.says("deed: HOUR (0 to 7), who, whom (0 to 3), the THING given, THINGS that it WANTS");
        String all = "hours 8;" + Checks.times(4, ONE);
        numbersAt(all + "deed ", " 0 0 0;", 0, 7, 6, x -> x.deed(0, 0));
        numbersAt(all + "deed 0 ", " 0 0;", 0, 3, 6, x -> x.deed(0, 1));
        numbersAt(all + "deed 0 0 ", " 0;", 0, 3, 6, x -> x.deed(0, 2));
        numbersAt(all + "deed 0 0 0 ", ";", 0, 5, 6, x -> x.deed(0, 3));
        numbersAt(all + "deed 0 0 0 0 ", ";", 0, 5, 6, x -> only(x.deed(0, 4)));
        EveningFirst x = Checks.told(all + "deed 0 0 0 0;deed 0 0 0 5 5 4 3 2 1 0;");
        Checks.due("deed(0, 4) of none", x.deed(0, 4), 0);
        Checks.due("deed(1, 4) of all", x.deed(1, 4), 63);
        Checks.says("must, never: a DEED (0 to 7). odds: a DEED, its ODDS.");
        String eight = ONE + Checks.times(8, DEED);
        numbersAt(eight + "must ", ";", 0, 7, 10, y -> marked(y, 1));
        numbersAt(eight + "never ", ";", 0, 7, 10, y -> marked(y, 2));
        numbersAt(eight + "odds ", " 3;", 0, 7, 10, y -> {
            long bits = 0;
            for (int d = 0; d < 8; d++) {
                bits |= y.deed(d, 6) == 3 ? 1 << d : 0;
            }
            return only(bits);
        });
        Checks.says("ODDS of a DEED (0 to 10 tenths; 10 at first)");
        numbersAt(eight + "odds 7 ", ";", 0, 10, 10, y -> y.deed(7, 6));
        Checks.due("deed(0, 5), free at first", x.deed(0, 5), 0);
        Checks.due("deed(0, 6), 10 at first", x.deed(0, 6), 10);
    }

    // ---- tokens

    private static boolean isLetter(int c) {
        return c >= 97 && c <= 122;
    }

    private static boolean isFigure(int c) {
        return c >= 48 && c <= 57;
    }

    private static void bytes() {
        Checks.says("TOKENS, each as long as may be, blanks (32) between: NAMES (a .. z), NUMBERS (1 or 2 figures), one ; .");
        for (int c = 0; c < 128; c++) {
            char sign = (char) c;
            boolean token = isLetter(c) || isFigure(c) || c == 59;
            if (c == 32) {
                Checks.taken(" ", 0);
                Checks.taken("hours 3;" + sign, 1);
                Checks.faulty("hours 3" + sign, 2, 8);
                Checks.taken("hours" + sign + "3;", 1);
                continue;
            }
            Checks.faulty("" + sign, token ? 2 : 1, 0);
            Checks.faulty("hours 3;" + sign, token ? 2 : 1, 8);
            if (c == 59) {
                Checks.taken("hours 3" + sign, 1);
                Checks.faulty("hours" + sign + "3;", 2, 5);
            } else if (isFigure(c)) {
                Checks.faulty("hours 3" + sign, 3, 6);
                Checks.faulty("hours 3" + sign + sign, 1, 6);
            } else if (isLetter(c)) {
                Checks.faulty("hours 3" + sign, 2, 7);
                Checks.faulty("hours" + sign + "3;", 2, 0);
            } else {
                Checks.faulty("hours 3" + sign, 1, 7);
                Checks.faulty("hours" + sign + "3;", 1, 5);
                Checks.faulty("hours 3" + sign + ";", 1, 7);
            }
        }
    }

    private static void tokens() {
        Checks.says("TOKENS, each as long as may be, blanks (32) between");
        Checks.taken("hours 3;one back;", 2);
        Checks.taken("  hours  3  ;  one  back  ;  ", 2);
        Checks.taken("hours 3;one back 1 2;", 2);
        Checks.faulty("hours 3;one back 12;", 3, 17);
        Checks.faulty("hours 3;oneback;", 2, 8);
        Checks.faulty("hours 3;one backback;", 2, 12);
        Checks.faulty("hour s 3;", 2, 0);
        Checks.faulty("h ours 3;", 2, 0);
        Checks.says("1 no TOKEN, a NUMBER that is too long (its first byte)");
        Checks.faulty("one back 12", 3, 9);
        Checks.faulty("one back 123", 1, 9);
        Checks.faulty("one back 1234", 1, 9);
        Checks.faulty("one back   123;", 1, 11);
        Checks.faulty("123", 1, 0);
        Checks.faulty("12", 2, 0);
    }

    /** Every beginning of a good text: whole lines are taken, half a NAME is refused at its first byte, else the end is. */
    private static void ends() {
        Checks.says("2 a TOKEN that can not stand there (a NAME that begins no line, is no W; or the end: the length)");
        String good = "hours 5;one other 2 0;one back;deed 4 0 1 1 2 3;must 0;odds 0 7;deed 0 0 0 0;never 1;";
        for (int n = 0; n <= good.length(); n++) {
            for (int blanks = 0; blanks <= 2; blanks++) {
                beginning(good, n, blanks);
            }
        }
    }

    private static void beginning(String good, int n, int blanks) {
        String words = good.substring(0, n) + Checks.times(blanks, " ");
        String bare = words.trim();
        int lines = bare.length() - bare.replace(";", "").length();
        int behindLine = bare.lastIndexOf(';') + 1;
        if (bare.length() == behindLine) {
            // the first deed names ONE 1, so that it can be told only behind him: the text has him ahead
            Checks.taken(words, lines);
            return;
        }
        int name = bare.length();
        while (name > 0 && isLetter(bare.charAt(name - 1))) {
            name--;
        }
        boolean half = name < bare.length() && n < good.length() && bare.length() == n && isLetter(good.charAt(n));
        Checks.faulty(words, 2, half ? name : words.length());
    }

    /** At each place of each line a TOKEN of each kind that can not stand there. */
    private static void outOfPlace() {
        Checks.says("2 a TOKEN that can not stand there (a NAME that begins no line, is no W; or the end: the length)");
        String[] lines = {"", "hours", "hours 3", "one", "one back", "one back 0", "deed", "deed 0", "deed 0 0", "deed 0 0 0",
            "deed 0 0 0 0", "deed 0 0 0 0 1", "must", "must 0", "never", "never 0", "odds", "odds 0", "odds 0 1"};
        // what may follow: a line's NAME, a NUMBER, a W, a ;
        String[] follow = {"L", "N", ";", "W", "N;", "N;", "N", "N", "N", "N", "N;", "N;", "N", ";", "N", ";", "N", "N", ";"};
        String[][] tokens = {{"N", "2"}, {";", ";"}, {"W", "forth"}, {"W", "back"}, {"W", "other"}, {"L", "hours"}, {"L", "one"},
            {"L", "deed"}, {"L", "must"}, {"L", "never"}, {"L", "odds"}, {"", "x"}, {"", "xours"}, {"", "xne"}, {"", "xeed"}, {"", "xust"}, {"", "xever"}, {"", "xdds"},
            {"", "xorth"}, {"", "xack"}, {"", "xther"}, {"", "hour"}, {"", "hourss"}, {"", "fort"},
            {"", "forthx"}, {"", "o"}, {"", "z"}};
        for (int i = 0; i < lines.length; i++) {
            for (String[] token : tokens) {
                String words = lines[i].isEmpty() ? "" : lines[i] + " ";
                if (token[0].isEmpty() || !follow[i].contains(token[0])) {
                    Checks.faulty(words + token[1], 2, words.length());
                    Checks.faulty(words + token[1] + " ?", 2, words.length());
                }
            }
            if (!lines[i].isEmpty()) {
                Checks.faulty(lines[i], 2, lines[i].length());
                Checks.faulty(lines[i] + " ", 2, lines[i].length() + 1);
                Checks.faulty(lines[i] + " ?", 1, lines[i].length() + 1);
            }
        }
    }

    // ---- what there is already, what there is not

    private static void toldTwice() {
        Checks.says("4 hours for the second time (its NAME)");
        Checks.taken("hours 3;", 1);
        Checks.faulty("hours 3;hours 3;", 4, 8);
        Checks.faulty("hours 3; hours", 4, 9);
        Checks.faulty("hours 3;one back;hours 9;", 4, 17);
        Checks.faulty("hours 9;hours 3;", 3, 6);
        Checks.says("a THING that was told in this line (of those at his beginning, of those WANTED)");
        Checks.faulty("one back 0 0;", 4, 11);
        Checks.faulty("one back 0 00;", 4, 11);
        Checks.faulty("one back 5 1 2 3 4 5;", 4, 19);
        Checks.faulty("one back 0 1 2 3 4 5 0", 4, 21);
        Checks.faulty("one back 0 1 2 3 4 5 6", 3, 21);
        Checks.taken("one back 0 1 2 3 4 5;", 1);
        Checks.taken("one back 0;one back 0;", 2);
        Checks.taken("one back;deed 0 0 0 0 0;deed 0 0 0 0 0;", 3);
        Checks.faulty("deed 0 0 0 0 0 0;", 4, 15);
        Checks.faulty("deed 0 0 0 0 1 2 1;", 4, 17);
        Checks.faulty("deed 0 0 0 0 0 1 2 3 4 5 5", 4, 25);
        Checks.says("a DEED of must, never that has a MARK already");
        for (String first : new String[] {"must", "never"}) {
            for (String second : new String[] {"must", "never"}) {
                for (int d = 0; d < 8; d++) {
                    String ahead = first + " " + d + ";" + second + " ";
                    Checks.faulty(ahead + d + ";", 4, ahead.length());
                    Checks.faulty(ahead + d + "?", 4, ahead.length());
                    Checks.faulty(ahead + "0" + d, 4, ahead.length());
                    Checks.faulty(ahead + (d + 1) % 8 + ";", 6, ahead.length() + 2);
                }
            }
        }
        Checks.says("a DEED of odds told already (it)");
        for (int d = 0; d < 8; d++) {
            String ahead = "odds " + d + " 10;odds ";
            Checks.faulty(ahead + d + " 1;", 4, ahead.length());
            Checks.faulty(ahead + d, 4, ahead.length());
            Checks.faulty(ahead + d + " 11;", 4, ahead.length());
            Checks.faulty(ahead + (d + 1) % 8 + " 1;", 6, ahead.length() + 4);
        }
        EveningFirst x = Checks.taken("one back;deed 0 0 0 0;must 0;odds 0 10;", 4);
        Checks.due("deed(0, 5): odds are no MARK", x.deed(0, 5), 1);
        Checks.taken("one back;deed 0 0 0 0;odds 0 0;never 0;", 4);
    }

    private static void tooMany() {
        Checks.says("5 the 5th one, the 9th deed (its NAME). PEOPLE (4 at most, by order). DEEDS (8 at most, by order)");
        for (int n = 0; n <= 4; n++) {
            EveningFirst x = Checks.taken(Checks.times(n, ONE), n);
            Checks.due("rule(1)", x.rule(1), n);
            for (int p = 0; p < 5; p++) {
                Checks.due("one(" + p + ", 0) of " + n, x.one(p, 0), p < n ? 0 : -1);
            }
        }
        for (String fifth : new String[] {"one", "one;", "one x", "one ?", "one back 6;", "one back;"}) {
            Checks.faulty(Checks.times(4, ONE) + fifth, 5, 40);
            Checks.faulty(Checks.times(4, ONE) + "  " + fifth, 5, 42);
        }
        for (int n = 0; n <= 8; n++) {
            EveningFirst x = Checks.taken(ONE + Checks.times(n, DEED), n + 1);
            Checks.due("rule(2)", x.rule(2), n);
            for (int d = 0; d < 9; d++) {
                Checks.due("deed(" + d + ", 6) of " + n, x.deed(d, 6), d < n ? 10 : -1);
            }
        }
        for (String ninth : new String[] {"deed", "deed;", "deed x", "deed ?", "deed 9", "deed 0 0 0 0;"}) {
            Checks.faulty(ONE + Checks.times(8, DEED) + ninth, 5, 114);
            Checks.faulty(Checks.times(8, DEED) + " " + ninth, 5, 105);
        }
    }

    private static void thereIsNot() {
        Checks.says("Behind all (the length): 6 an HOUR, a ONE, a DEED that there is not.");
        for (int hours = 2; hours <= 8; hours++) {
            for (int h = 0; h < 8; h++) {
                for (String words : new String[] {"hours " + hours + ";" + ONE + "deed " + h + " 0 0 0;",
                    "deed " + h + " 0 0 0;" + ONE + "hours " + hours + "; "}) {
                    takenOrNot(words, h < hours, 3);
                }
            }
        }
        for (int h = 0; h < 8; h++) {
            takenOrNot(ONE + "deed " + h + " 0 0 0;", h < 4, 2);
        }
        for (int people = 0; people <= 4; people++) {
            for (int p = 0; p < 4; p++) {
                takenOrNot(Checks.times(people, ONE) + "deed 0 " + p + " 0 0;", p < people, people + 1);
                takenOrNot("deed 0 0 " + p + " 0;" + Checks.times(people, ONE) + "  ", p < people, people + 1);
            }
        }
        for (int deeds = 0; deeds <= 8; deeds++) {
            for (int d = 0; d < 8; d++) {
                String some = ONE + Checks.times(deeds, DEED);
                takenOrNot(some + "must " + d + ";", d < deeds, deeds + 2);
                takenOrNot("must " + d + ";" + some, d < deeds, deeds + 2);
                takenOrNot(some + "never " + d + "; ", d < deeds, deeds + 2);
                takenOrNot(some + "odds " + d + " 10;", d < deeds, deeds + 2);
                takenOrNot("odds " + d + " 0;" + some, d < deeds, deeds + 2);
            }
        }
    }

    private static void takenOrNot(String words, boolean good, int lines) {
        if (good) {
            Checks.taken(words, lines);
        } else {
            Checks.faulty(words, 6, words.length());
        }
    }

    private static void firstMet() {
        Checks.says("FAULTS, the first met as it is read (a TOKEN is read when the one before has been taken)");
        Checks.faulty("hours 9?", 3, 6);
        Checks.faulty("hours ?9", 1, 6);
        Checks.faulty("hours 3 ?", 1, 8);
        Checks.faulty("x?", 2, 0);
        Checks.faulty("one x?", 2, 4);
        Checks.faulty("one back 6 ?", 3, 9);
        Checks.faulty("one back 1 1 ?", 4, 11);
        Checks.faulty("deed 8 4 4 6 6;", 3, 5);
        Checks.faulty("deed 7 4 4 6 6;", 3, 7);
        Checks.faulty("deed 7 3 4 6 6;", 3, 9);
        Checks.faulty("deed 7 3 3 6 6;", 3, 11);
        Checks.faulty("deed 7 3 3 5 6;", 3, 13);
        Checks.faulty("deed 7 3 3 5 5;", 6, 15);
        Checks.faulty("odds 8 11;", 3, 5);
        Checks.faulty("odds 7 11;", 3, 7);
        Checks.faulty("odds 7 10;", 6, 10);
        Checks.faulty("must 7;x", 2, 7);
        Checks.faulty("must 7;hours 1;", 3, 13);
        Checks.faulty("hours 2;hours 3;?", 4, 8);
    }

    private static void tellsAll() {
        Checks.says("A text that is taken tells all, in place of what there was; nothing is SEEN; IMAGES are gone.");
        EveningFirst x = Checks.rich();
        x.keep(1);
        x.end(0);
        Checks.feed(x, "one back;deed 0 0 0 0;");
        Checks.due("text()", x.text(), 2);
        int[] rules = {4, 1, 1};
        for (int what = 0; what < 3; what++) {
            Checks.due("rule(" + what + ")", x.rule(what), rules[what]);
        }
        Checks.due("one(0, 0)", x.one(0, 0), 1);
        Checks.due("one(0, 1)", x.one(0, 1), 0);
        Checks.due("one(1, 0)", x.one(1, 0), -1);
        int[] deed = {0, 0, 0, 0, 0, 0, 10};
        for (int what = 0; what < 7; what++) {
            Checks.due("deed(0, " + what + ")", x.deed(0, what), deed[what]);
        }
        Checks.due("deed(1, 0)", x.deed(1, 0), -1);
        Checks.due("count(2)", x.count(2), 0);
        Checks.due("count(3)", x.count(3), 0);
        Checks.due("back(0)", x.back(0), -2);
        Checks.due("back(1)", x.back(1), -2);
        Checks.due("count(5): SHEETS stay", x.count(5), 6);
        Checks.due("torn() stays", x.torn(), 2);
        EveningFirst z = Checks.told("one back 1;one other 2;one back 3;one other 4;" + Checks.times(4, DEED)
                + "must 1;never 3;odds 1 3;odds 3 0;");
        Checks.feed(z, Checks.times(4, ONE) + Checks.times(4, DEED));
        z.text();
        for (int i = 0; i < 4; i++) {
            Checks.due("one(" + i + ", 0) behind another text", z.one(i, 0), 0);
            Checks.due("one(" + i + ", 1) behind another text", z.one(i, 1), 0);
            Checks.due("deed(" + i + ", 5) behind another text", z.deed(i, 5), 0);
            Checks.due("deed(" + i + ", 6) behind another text", z.deed(i, 6), 10);
        }
        EveningFirst y = Checks.rich();
        y.end(0);
        y.text();
        Checks.due("count(2) behind an empty text", y.count(2), 0);
        Checks.due("count(3) behind an empty text", y.count(3), 0);
        Checks.due("rule(0) behind an empty text", y.rule(0), 4);
    }

    private static void staysAsItWas() {
        Checks.says("-10 less the place of its FAULT: that which was told stays");
        Checks.faulty(Checks::rich, "?", 1, 0);
        Checks.faulty(Checks::rich, "hours 3;one forth;x", 2, 18);
        Checks.faulty(Checks::rich, "hours 9;", 3, 6);
        Checks.faulty(Checks::rich, "hours 3;hours 3;", 4, 8);
        Checks.faulty(Checks::rich, "must 0;never 1;must 1;", 4, 20);
        Checks.faulty(Checks::rich, "odds 0 1;odds 1 2;odds 8", 3, 23);
        Checks.faulty(Checks::rich, Checks.times(4, "one back;") + "one", 5, 36);
        Checks.faulty(Checks::rich, "one back;must 0;odds 0 2;", 6, 25);
        Checks.faulty(Checks::rich, "one back;deed 4 0 0 0;", 6, 22);
        Checks.faulty(() -> Checks.told("hours 2;one other 3;"), ONE + Checks.times(8, DEED) + "deed", 5, 114);
        EveningFirst x = new EveningFirst();
        Checks.feed(x, "hours 2;one back 3;must 0;odds 0 2;deed 0 0 0 5 1;x");
        x.text();
        Checks.feed(x, ONE + DEED);
        Checks.due("text() behind one with a FAULT", x.text(), 2);
        Checks.due("rule(0): the FAULTY one told nothing", x.rule(0), 4);
        Checks.due("one(0, 0): the FAULTY one told nothing", x.one(0, 0), 0);
        Checks.due("one(0, 1): the FAULTY one told nothing", x.one(0, 1), 0);
        int[] deed = {0, 0, 0, 0, 0, 0, 10};
        for (int what = 0; what < 7; what++) {
            Checks.due("deed(0, " + what + "): the FAULTY one told nothing", x.deed(0, what), deed[what]);
        }
    }
}
