/** For each promise of the document: ordinary inputs, the edges that it names, and wrong inputs, worked out by hand. */
public final class PromisesTest {
    private static int checked = 0;
    private static int wrong = 0;
    private static int promise = 0;

    private static void due(String call, long got, long want) {
        checked++;
        if (got != want) {
            wrong++;
            System.out.println("promise " + promise + ": " + call + " answered " + got + ", due is " + want);
        }
    }

    private static void feed(EveningFirst x, String words) {
        for (int i = 0; i < words.length(); i++) {
            x.feed(words.charAt(i));
        }
    }

    private static int tell(EveningFirst x, String words) {
        x.end(0);
        feed(x, words);
        return x.text();
    }

    private static EveningFirst told(String words) {
        EveningFirst x = new EveningFirst();
        int lines = tell(x, words);
        due("text of " + words, lines >= 0 ? 0 : lines, 0);
        return x;
    }

    /** A text with a fault: its kind and place, and that nothing but the tape is changed. */
    private static void faulty(String words, int fault, int place) {
        EveningFirst x = told("hours 3; one back 1;");
        x.see(0, 1, 0, true);
        x.keep(1);
        due("text of '" + words + "'", tell(x, words), -10 - place);
        due("fault of '" + words + "'", x.fault(), fault);
        due("hours behind '" + words + "'", x.rule(0), 3);
        due("people behind '" + words + "'", x.rule(1), 1);
        due("deeds behind '" + words + "'", x.rule(2), 0);
        due("seen behind '" + words + "'", x.count(2), 1);
        due("images behind '" + words + "'", x.count(3), 1);
        due("tape behind '" + words + "'", x.count(4), 0);
    }

    private static void taken(String words, int lines) {
        EveningFirst x = new EveningFirst();
        due("text of '" + words + "'", tell(x, words), lines);
        due("fault of '" + words + "'", x.fault(), 0);
    }

    /** 0 to 1 to 0 and round: deeds 0 and 1 want each other's gift, deed 2 wants nothing, deed 3 wants of deed 2. */
    private static EveningFirst round() {
        return told("hours 4;one forth;one back;deed 2 0 1 0 1;deed 1 1 0 1 0;deed 0 0 0 2;deed 3 0 1 3 2;");
    }

    public static void main(String[] args) {
        aNewObject();
        feedAndEnd();
        text();
        textFaults();
        ruleOneDeed();
        goBirth();
        does();
        shiftMarkOdd();
        has();
        hangsLacks();
        days();
        greatestMade();
        stop();
        reach();
        better();
        common();
        odds();
        luck();
        seeForget();
        ways();
        walk();
        keepBack();
        sheetLay();
        read();
        count();
        System.out.println("PromisesTest: " + checked + " answers, " + wrong + " wrong");
        if (wrong != 0) {
            System.exit(1);
        }
    }

    private static void aNewObject() {
        promise = 1;
        EveningFirst x = new EveningFirst();
        due("rule(0)", x.rule(0), 4);
        due("rule(1)", x.rule(1), 0);
        due("rule(2)", x.rule(2), 0);
        due("fault()", x.fault(), 0);
        due("torn()", x.torn(), 0);
        for (int what = 0; what <= 6; what++) {
            due("count(" + what + ")", x.count(what), what == 5 ? -4 : 0);
        }
        for (int k = 0; k < 4; k++) {
            due("lay(" + k + ", 0, 0)", x.lay(k, 0, 0), -11);
        }
        due("back(0)", x.back(0), -2);
        due("back(1)", x.back(1), -2);
        due("hangs(0)", x.hangs(0), 1);
        due("hangs(1)", x.hangs(1), -1);
        due("days(0)", x.days(0), 1);
        due("days(3)", x.days(3), 0);
        due("greatest()", x.greatest(), 0);
        due("odds(0)", x.odds(0), 1);
        due("odds(1)", x.odds(1), 1);
        due("ways(0)", x.ways(0), 1);
        due("ways(1)", x.ways(1), 0);
        due("ways(10)", x.ways(10), -1);
    }

    private static void feedAndEnd() {
        promise = 2;
        EveningFirst x = new EveningFirst();
        due("feed(-1)", x.feed(-1), -1);
        due("feed(128)", x.feed(128), -1);
        due("feed(0)", x.feed(0), 1);
        due("feed(127)", x.feed(127), 2);
        for (int i = 3; i <= 160; i++) {
            due("feed(32)", x.feed(32), i);
        }
        due("feed(32), one more", x.feed(32), -3);
        due("feed(-1), full", x.feed(-1), -1);
        due("feed(128), full", x.feed(128), -1);
        due("count(4)", x.count(4), 160);
        promise = 3;
        due("end(161)", x.end(161), -1);
        due("end(-1)", x.end(-1), -1);
        due("end(160)", x.end(160), 160);
        due("end(2)", x.end(2), 160);
        due("end(3)", x.end(3), -1);
        due("count(4)", x.count(4), 2);
        due("end(0)", x.end(0), 2);
        due("end(0) of none", x.end(0), 0);
        due("end(1) of none", x.end(1), -1);
        feed(x, "hours 8; garbage");
        due("end(8)", x.end(8), 16);
        due("text()", x.text(), 1);
        due("rule(0)", x.rule(0), 8);
    }

    private static void text() {
        promise = 4;
        taken("", 0);
        taken("     ", 0);
        taken("hours 2;", 1);
        taken("hours 8;", 1);
        taken("hours8;one forth 0 1 2 3 4 5;", 2);
        taken("  hours   08  ;  ", 1);
        taken("one forth;one back;one other;one other;", 4);
        taken("must 0;odds 0 10;deed 0 0 0 0;one forth;", 4);
        taken("one forth;deed 03 00 0 05 5 4 3 2 1 0;odds 0 0;never 0;", 4);
        taken("one back;deed 7 0 0 0;hours 8;", 3);
        taken("deed 0 3 3 5;one forth;one forth;one forth;one forth;", 5);
        taken("one forth;deed 0 0 0 0 0;", 2);
        taken("one other;must 7;odds 7 1;deed 0 0 0 0;deed 0 0 0 0;deed 0 0 0 0;deed 0 0 0 0;deed 0 0 0 0;deed 0 0 0 0;"
                + "deed 0 0 0 0;deed 0 0 0 0;", 11);
        EveningFirst x = told("hours 6;one other 5 0;one back;deed 3 1 0 4 2 1;must 0;odds 0 7;");
        due("rule(0)", x.rule(0), 6);
        due("one(0, 1)", x.one(0, 1), 33);
        due("deed(0, 4)", x.deed(0, 4), 6);
        due("deed(0, 5)", x.deed(0, 5), 1);
        due("deed(0, 6)", x.deed(0, 6), 7);
        x.see(0, 0, 0, true);
        x.keep(0);
        x.sheet(0, 1, 3);
        due("ways(0)", x.ways(0), 9);
        due("text()", tell(x, "one forth;deed 0 0 0 0;never 0;"), 3);
        due("rule(0) as at first", x.rule(0), 4);
        due("rule(1)", x.rule(1), 1);
        due("one(0, 0)", x.one(0, 0), 0);
        due("one(0, 1)", x.one(0, 1), 0);
        due("deed(0, 4)", x.deed(0, 4), 0);
        due("deed(0, 5)", x.deed(0, 5), 2);
        due("deed(0, 6) as at first", x.deed(0, 6), 10);
        due("count(2): nothing seen", x.count(2), 0);
        due("count(3): images gone", x.count(3), 0);
        due("back(0)", x.back(0), -2);
        due("count(5): sheets stay", x.count(5), 3);
        due("text() of nothing", x.text(), 0);
        due("rule(1)", x.rule(1), 0);
        due("rule(2)", x.rule(2), 0);
        x = told("one forth;deed 0 0 0 0;odds 0 3;must 0;");
        tell(x, "odds 0 3;must 0;?");
        tell(x, "one forth;deed 0 0 0 0;");
        due("deed(0, 5) untouched by a refused text", x.deed(0, 5), 0);
        due("deed(0, 6) untouched by a refused text", x.deed(0, 6), 10);
    }

    private static void textFaults() {
        promise = 5;
        faulty("?", 1, 0);
        faulty("hours 3;\t", 1, 8);
        faulty("Hours 3;", 1, 0);
        faulty("hours 003;", 1, 6);
        faulty("hours 123;", 1, 6);
        faulty("hours 12345678901;", 1, 6);
        faulty("one forth -1;", 1, 10);
        faulty("123", 1, 0);
        faulty("hours 3;{", 1, 8);
        faulty("hours 3;`", 1, 8);
        faulty("hours 3;:", 1, 8);
        faulty("hours 3;/", 1, 8);
        faulty("hour 3;", 2, 0);
        faulty("hourss 3;", 2, 0);
        faulty("xours 3;", 2, 0);
        faulty("hourx 3;", 2, 0);
        faulty("hours 3;z", 2, 8);
        faulty("hours 3;azaz", 2, 8);
        faulty("one 123;", 1, 4);
        faulty("one forth 123;", 1, 10);
        faulty("forth;", 2, 0);
        faulty("  ; ", 2, 2);
        faulty("12", 2, 0);
        faulty("hours", 2, 5);
        faulty("hours  ", 2, 7);
        faulty("hours 3", 2, 7);
        faulty("hours 3  ", 2, 9);
        faulty("hours ;", 2, 6);
        faulty("hours x;", 2, 6);
        faulty("hours 3 4;", 2, 8);
        faulty("hours 3 one;", 2, 8);
        faulty("one ;", 2, 4);
        faulty("one 0;", 2, 4);
        faulty("one hours;", 2, 4);
        faulty("one", 2, 3);
        faulty("one forth", 2, 9);
        faulty("one forth x;", 2, 10);
        faulty("deed 0 0 0;", 2, 10);
        faulty("deed 0 0 0 0", 2, 12);
        faulty("deed 0 0 0 0 x", 2, 13);
        faulty("must;", 2, 4);
        faulty("must 0", 2, 6);
        faulty("never x;", 2, 6);
        faulty("odds 0;", 2, 6);
        faulty("odds 0 1", 2, 8);
        faulty("odds 0 1 1;", 2, 9);
        faulty("hours 1;", 3, 6);
        faulty("hours 9;", 3, 6);
        faulty("hours 9?", 3, 6);
        faulty("one forth 6;", 3, 10);
        faulty("deed 8 0 0 0;", 3, 5);
        faulty("deed 0 4 0 0;", 3, 7);
        faulty("deed 0 0 4 0;", 3, 9);
        faulty("deed 0 0 0 6;", 3, 11);
        faulty("deed 0 0 0 0 6;", 3, 13);
        faulty("must 8;", 3, 5);
        faulty("never 8;", 3, 6);
        faulty("odds 8 0;", 3, 5);
        faulty("odds 0 11;", 3, 7);
        faulty("hours 3;hours ?", 4, 8);
        faulty("one forth 1 01;", 4, 12);
        faulty("deed 0 0 0 0 0 1 0;", 4, 17);
        faulty("must 0;must 0?", 4, 12);
        faulty("must 0;never 0;", 4, 13);
        faulty("must 0;must 1;must 0;", 4, 19);
        faulty("odds 0 1;odds 1 1;odds 0 1;", 4, 23);
        faulty("must 1;must 0;one forth;deed 0 0 0 0;", 6, 37);
        faulty("odds 1 0;odds 0 0;one forth;deed 0 0 0 0;", 6, 41);
        faulty("never 0;must 00;", 4, 13);
        faulty("never 0;never 0;", 4, 14);
        faulty("odds 0 1;odds 0 11;", 4, 14);
        faulty("one back;one back;one back;one back;one ?", 5, 36);
        faulty("deed 0 0 0 0;deed 0 0 0 0;deed 0 0 0 0;deed 0 0 0 0;deed 0 0 0 0;deed 0 0 0 0;"
                + "deed 0 0 0 0;deed 0 0 0 0;deed 9", 5, 104);
        faulty("one forth;deed 4 0 0 0;", 6, 23);
        faulty("hours 2;one forth;deed 2 0 0 0; ", 6, 32);
        faulty("one forth;deed 0 1 0 0;", 6, 23);
        faulty("one forth;deed 0 0 1 0;", 6, 23);
        faulty("one forth;deed 0 0 0 0;must 1;", 6, 30);
        faulty("one forth;deed 0 0 0 0;never 1;", 6, 31);
        faulty("one forth;deed 0 0 0 0;odds 1 10;", 6, 33);
        faulty("must 0;", 6, 7);
        faulty("one forth;deed 7 0 0 0;x", 2, 23);
        EveningFirst x = new EveningFirst();
        tell(x, "?");
        due("fault() of the latest", x.fault(), 1);
        tell(x, "hours 3;");
        due("fault() of a good one", x.fault(), 0);
    }

    private static void ruleOneDeed() {
        EveningFirst x = told("hours 5;one forth 0;one back;one other 3 1;deed 4 1 2 5 0 3;never 0;odds 0 4;");
        promise = 6;
        due("rule(0)", x.rule(0), 5);
        due("rule(1)", x.rule(1), 3);
        due("rule(2)", x.rule(2), 1);
        due("rule(3)", x.rule(3), -1);
        due("rule(-1)", x.rule(-1), -1);
        promise = 7;
        int[][] rows = {{0, 1, 2, 3, 4}, {4, 3, 2, 1, 0}, {0, 2, 4, 3, 1}};
        for (int p = 0; p < 3; p++) {
            due("one(p, 0)", x.one(p, 0), p);
            for (int i = 0; i < 5; i++) {
                due("one(" + p + ", 1" + i + ")", x.one(p, 10 + i), rows[p][i]);
            }
        }
        due("one(0, 1)", x.one(0, 1), 1);
        due("one(1, 1)", x.one(1, 1), 0);
        due("one(2, 1)", x.one(2, 1), 10);
        for (int p = 0; p < 3; p++) {
            due("one(" + p + ", 15)", x.one(p, 15), -1);
        }
        due("one(2, 9)", x.one(2, 9), -1);
        due("one(2, 2)", x.one(2, 2), -1);
        due("one(2, -1)", x.one(2, -1), -1);
        due("one(3, 0)", x.one(3, 0), -1);
        due("one(-1, 0)", x.one(-1, 0), -1);
        due("one(0, least)", x.one(0, Integer.MIN_VALUE), -1);
        EveningFirst y = told("hours 8;one other;");
        int[] even = {0, 2, 4, 6, 7, 5, 3, 1};
        for (int i = 0; i < 8; i++) {
            due("one(0, 1" + i + ") of 8", y.one(0, 10 + i), even[i]);
        }
        promise = 8;
        int[] told = {4, 1, 2, 5, 9, 2, 4};
        for (int what = 0; what < 7; what++) {
            due("deed(0, " + what + ")", x.deed(0, what), told[what]);
        }
        due("deed(0, 7)", x.deed(0, 7), -1);
        due("deed(0, -1)", x.deed(0, -1), -1);
        due("deed(1, 0)", x.deed(1, 0), -1);
        due("deed(-1, 0)", x.deed(-1, 0), -1);
    }

    private static void goBirth() {
        EveningFirst x = told("one forth 0;one back;");
        promise = 9;
        due("go(0, 2)", x.go(0, 2), 0);
        due("go(0, 0)", x.go(0, 0), 2);
        due("go(0, 1)", x.go(0, 1), 0);
        due("go(0, 1)", x.go(0, 1), 1);
        due("go(0, 3)", x.go(0, 3), -1);
        due("go(0, -1)", x.go(0, -1), -1);
        due("go(2, 0)", x.go(2, 0), -1);
        due("go(-1, 0)", x.go(-1, 0), -1);
        due("one(0, 0)", x.one(0, 0), 1);
        due("one(0, 10)", x.one(0, 10), 3);
        promise = 10;
        due("birth(0, 63)", x.birth(0, 63), 1);
        due("birth(0, 64)", x.birth(0, 64), -1);
        due("birth(0, -1)", x.birth(0, -1), -1);
        due("birth(2, 0)", x.birth(2, 0), -1);
        due("birth(-1, 0)", x.birth(-1, 0), -1);
        due("birth(0, 0)", x.birth(0, 0), 63);
        due("one(0, 1)", x.one(0, 1), 0);
    }

    private static void does() {
        promise = 11;
        EveningFirst x = told("hours 3;one forth;one back;");
        due("does, hour 3", x.does(3, 0, 0, 0, 0), -1);
        due("does, hour -1", x.does(-1, 0, 0, 0, 0), -1);
        due("does, who 2", x.does(0, 2, 0, 0, 0), -1);
        due("does, who -1", x.does(0, -1, 0, 0, 0), -1);
        due("does, whom 2", x.does(0, 0, 2, 0, 0), -1);
        due("does, whom -1", x.does(0, 0, -1, 0, 0), -1);
        due("does, thing 6", x.does(0, 0, 0, 6, 0), -1);
        due("does, thing -1", x.does(0, 0, 0, -1, 0), -1);
        due("does, wants 64", x.does(0, 0, 0, 0, 64), -1);
        due("does, wants -1", x.does(0, 0, 0, 0, -1), -1);
        due("does", x.does(2, 1, 0, 5, 63), 1);
        int[] told = {2, 1, 0, 5, 63, 0, 10};
        for (int what = 0; what < 7; what++) {
            due("deed(0, " + what + ")", x.deed(0, what), told[what]);
        }
        due("does", x.does(0, 0, 1, 0, 0), 2);
        due("deed(1, 2)", x.deed(1, 2), 1);
        for (int d = 3; d <= 8; d++) {
            due("does, of himself", x.does(0, 0, 0, 0, 0), d);
        }
        due("does, the 9th", x.does(0, 0, 0, 0, 0), -3);
        due("does, the 9th and BAD", x.does(3, 0, 0, 0, 0), -1);
        due("rule(2)", x.rule(2), 8);
        // a row that an image leaves behind must not lend its mark and odds to the next deed
        EveningFirst y = told("one forth;");
        y.keep(0);
        y.does(0, 0, 0, 0, 0);
        y.mark(0, 2);
        y.odd(0, 3);
        y.back(0);
        due("does behind back", y.does(1, 0, 0, 0, 0), 1);
        due("deed(0, 5)", y.deed(0, 5), 0);
        due("deed(0, 6)", y.deed(0, 6), 10);
    }

    private static void shiftMarkOdd() {
        EveningFirst x = told("hours 3;one forth;deed 1 0 0 0;");
        promise = 12;
        due("shift(0, 2)", x.shift(0, 2), 1);
        due("shift(0, 3)", x.shift(0, 3), -1);
        due("shift(0, -1)", x.shift(0, -1), -1);
        due("shift(1, 0)", x.shift(1, 0), -1);
        due("shift(-1, 0)", x.shift(-1, 0), -1);
        due("deed(0, 0)", x.deed(0, 0), 2);
        promise = 13;
        due("mark(0, 1)", x.mark(0, 1), 0);
        due("mark(0, 2)", x.mark(0, 2), 1);
        due("mark(0, 3)", x.mark(0, 3), -1);
        due("mark(0, -1)", x.mark(0, -1), -1);
        due("mark(1, 0)", x.mark(1, 0), -1);
        due("mark(-1, 0)", x.mark(-1, 0), -1);
        due("mark(0, 0)", x.mark(0, 0), 2);
        due("deed(0, 5)", x.deed(0, 5), 0);
        promise = 14;
        due("odd(0, 0)", x.odd(0, 0), 10);
        due("odd(0, 11)", x.odd(0, 11), -1);
        due("odd(0, -1)", x.odd(0, -1), -1);
        due("odd(1, 0)", x.odd(1, 0), -1);
        due("odd(-1, 0)", x.odd(-1, 0), -1);
        due("odd(0, 10)", x.odd(0, 10), 0);
        due("deed(0, 6)", x.deed(0, 6), 10);
    }

    private static void has() {
        promise = 15;
        EveningFirst x = told("hours 5;one forth;one back 0;one other;deed 3 0 0 1;deed 3 0 1 1;deed 3 0 2 1;deed 2 0 2 2;");
        int[][] had = {{0, 0, 0, 0, 2}, {3, 3, 3, 1, 1}, {0, 6, 0, 4, 4}};
        for (int p = 0; p < 3; p++) {
            for (int h = 0; h < 5; h++) {
                due("has(" + p + ", " + h + ", 15)", x.has(p, h, 15), had[p][h]);
                due("has(" + p + ", " + h + ", 0)", x.has(p, h, 0), p == 1 ? 1 : 0);
            }
        }
        due("has(2, 1, 8)", x.has(2, 1, 8), 4);
        for (int hours = 2; hours <= 8; hours++) {
            for (int way = 0; way < 3; way++) {
                earlier(hours, way);
            }
        }
        due("has(3, 0, 0)", x.has(3, 0, 0), -1);
        due("has(-1, 0, 0)", x.has(-1, 0, 0), -1);
        due("has(0, 5, 0)", x.has(0, 5, 0), -1);
        due("has(0, -1, 0)", x.has(0, -1, 0), -1);
        due("has(0, 0, 16)", x.has(0, 0, 16), -1);
        due("has(0, 0, -1)", x.has(0, 0, -1), -1);
    }

    /** Each hour is held against each other one by their places in the row. */
    private static void earlier(int hours, int way) {
        String[] others = {"01", "021", "0231", "02431", "024531", "0246531", "02467531"};
        String forth = "01234567".substring(0, hours);
        String back = new StringBuilder(forth).reverse().toString();
        String row = way == 0 ? forth : way == 1 ? back : others[hours - 2];
        EveningFirst x = told("hours " + hours + ";one forth;deed 0 0 0 3;");
        x.go(0, way);
        for (int i = 0; i < hours; i++) {
            x.shift(0, row.charAt(i) - '0');
            for (int j = 0; j < hours; j++) {
                due("has of " + hours + " hours by " + way + ", places " + i + ", " + j,
                        x.has(0, row.charAt(j) - '0', 1), i < j ? 8 : 0);
            }
        }
    }

    private static void hangsLacks() {
        EveningFirst x = round();
        promise = 16;
        due("hangs(0)", x.hangs(0), 1);
        due("hangs(1)", x.hangs(1), 0);
        due("hangs(2)", x.hangs(2), 0);
        due("hangs(3)", x.hangs(3), 1);
        due("hangs(4)", x.hangs(4), 1);
        due("hangs(8)", x.hangs(8), 0);
        due("hangs(15)", x.hangs(15), 1);
        due("hangs(16)", x.hangs(16), -1);
        due("hangs(-1)", x.hangs(-1), -1);
        x.mark(0, 2);
        due("hangs(15), marks do not matter", x.hangs(15), 1);
        promise = 17;
        due("lacks(0, 0)", x.lacks(0, 0), -4);
        due("lacks(15, 1)", x.lacks(15, 1), -4);
        due("lacks(10, 0)", x.lacks(10, 0), 1);
        due("lacks(10, 1)", x.lacks(10, 1), 0);
        due("lacks(8, 0)", x.lacks(8, 0), 3);
        due("lacks(8, 1)", x.lacks(8, 1), 2);
        due("lacks(16, 0)", x.lacks(16, 0), -1);
        due("lacks(-1, 0)", x.lacks(-1, 0), -1);
        due("lacks(0, 2)", x.lacks(0, 2), -1);
        due("lacks(0, -1)", x.lacks(0, -1), -1);
        EveningFirst y = told("one forth 2 0;deed 0 0 0 1 5 4 2 0;");
        due("lacks, the first of two", y.lacks(1, 1), 4);
        EveningFirst z = told("one forth;deed 0 0 0 0;deed 1 0 0 0;deed 2 0 0 0;deed 3 0 0 1 0;");
        for (int day = 0; day < 16; day++) {
            due("hangs(" + day + "), one of three that give is enough", z.hangs(day), day == 8 ? 0 : 1);
        }
        due("a gift is no help in its own hour", told("one forth;deed 0 0 0 1 1;").hangs(1), 0);
    }

    private static void days() {
        promise = 18;
        EveningFirst x = round();
        // {}, 01, 2, 012, 23, 0123
        due("days(0)", x.days(0), 6);
        due("days(1)", x.days(1), 0);
        due("days(2)", x.days(2), 15);
        due("days(3)", x.days(3), 0);
        due("days(4)", x.days(4), 0);
        x.mark(2, 1);
        x.mark(3, 2);
        due("days(0)", x.days(0), 2);
        due("days(1)", x.days(1), 4);
        due("days(2)", x.days(2), 7);
        due("days(3)", x.days(3), 4);
        due("days(4)", x.days(4), 8);
        x.mark(3, 1);
        x.mark(2, 2);
        due("days(0), none", x.days(0), 0);
        for (int what = 1; what <= 4; what++) {
            due("days(" + what + "), none", x.days(what), -4);
        }
        x.mark(3, 0);
        x.mark(2, 0);
        x.mark(0, 2);
        due("days(4), the first of all", x.days(4), 3);
        due("days(0), marks are taken away again", x.days(0), 3);
        due("days(5)", x.days(5), -1);
        due("days(-1)", x.days(-1), -1);
    }

    private static void greatestMade() {
        EveningFirst x = round();
        promise = 19;
        due("greatest()", x.greatest(), 15);
        promise = 20;
        due("made(0)", x.made(0), 12);
        due("made(1)", x.made(1), 3);
        due("made(2)", x.made(2), 2);
        due("made(3)", x.made(3), -1);
        due("made(-1)", x.made(-1), -1);
        x.mark(0, 2);
        due("made(1) without 0", x.made(1), 0);
        promise = 19;
        due("greatest() without 0", x.greatest(), 12);
        x.mark(2, 2);
        due("greatest() without 0, 2", x.greatest(), 0);
        x.mark(3, 1);
        due("greatest(), what must be does not matter", x.greatest(), 0);
        promise = 20;
        due("made(2) of nothing", x.made(2), 0);
        EveningFirst y = told("hours 8;one forth;deed 0 0 0 0;deed 1 0 0 1 0;deed 2 0 0 2 1;deed 3 0 0 3 2;"
                + "deed 4 0 0 4 3;deed 5 0 0 5 4;deed 6 0 0 0 5;deed 7 0 0 0 5;");
        due("made(0) of a row", y.made(0), 255);
        due("made(2) of a row", y.made(2), 7);
        EveningFirst z = told("hours 8;one back;one forth;deed 0 0 1 0;deed 1 1 0 0 0;deed 0 0 1 1 0;deed 1 1 0 1 1;"
                + "deed 0 0 1 2 1;deed 1 1 0 2 2;deed 0 0 1 3 2;");
        z.does(1, 1, 0, 3, 8);
        due("made(0) to and fro", z.made(0), 255);
        due("made(2) to and fro", z.made(2), 8);
    }

    private static void stop() {
        promise = 21;
        EveningFirst x = round();
        due("stop(0)", x.stop(0), 0);
        due("stop(1)", x.stop(1), 0);
        due("stop(2)", x.stop(2), -1);
        due("stop(-1)", x.stop(-1), -1);
        due("deed(0, 5) as it was", x.deed(0, 5), 0);
        x.mark(0, 1);
        due("stop(0), what must be may be stopped", x.stop(0), 0);
        x.mark(0, 2);
        due("stop(0), none goes round", x.stop(0), -4);
        due("stop(1), none goes round", x.stop(1), -4);
        // 0 and 1 go round; 2, 3, 4 go round, 4 only by the others: to stop 2 leaves two, to stop 4 leaves four
        EveningFirst y = told("hours 3;one forth;one back;deed 2 0 1 0 1;deed 0 1 0 1 0;deed 2 0 1 2 3;deed 0 1 0 3 2;"
                + "deed 2 0 1 4 3;");
        due("made(1)", y.made(1), 31);
        due("stop(0)", y.stop(0), 2);
        due("stop(1)", y.stop(1), 2);
        y.does(2, 0, 1, 5, 8);
        due("made(1)", y.made(1), 63);
        due("stop(0), of several the first", y.stop(0), 2);
        due("stop(1)", y.stop(1), 2);
        y.mark(2, 2);
        y.mark(0, 0);
        due("stop(0), the other round", y.stop(0), 0);
        due("stop(1), the other round", y.stop(1), 0);
        EveningFirst z = told("hours 3;one forth;one back;deed 0 0 0 5;deed 2 0 1 0 1;deed 0 1 0 1 0;");
        due("stop(0)", z.stop(0), 1);
        due("stop(1)", z.stop(1), 0);
    }

    private static void reach() {
        promise = 22;
        EveningFirst x = told("hours 4;one forth;deed 0 0 0 0;deed 1 0 0 1 0;deed 2 0 0 2 1;deed 2 0 0 2;");
        due("reach(0, 2, 3, 0)", x.reach(0, 2, 3, 0), 1);
        due("reach(0, 2, 3, 1): the least of the shortest", x.reach(0, 2, 3, 1), 8);
        x.mark(3, 2);
        due("reach(0, 2, 3, 0)", x.reach(0, 2, 3, 0), 3);
        due("reach(0, 2, 3, 1)", x.reach(0, 2, 3, 1), 7);
        due("reach(0, 2, 2, 0)", x.reach(0, 2, 2, 0), -4);
        due("reach(0, 2, 2, 1)", x.reach(0, 2, 2, 1), -4);
        x.birth(0, 4);
        due("reach(0, 2, 0, 0), at his beginning", x.reach(0, 2, 0, 0), 0);
        due("reach(0, 2, 0, 1), at his beginning", x.reach(0, 2, 0, 1), 0);
        x.mark(1, 1);
        due("reach(0, 2, 0, 0), with what must be", x.reach(0, 2, 0, 0), 2);
        due("reach(0, 2, 0, 1), with what must be", x.reach(0, 2, 0, 1), 3);
        due("reach, BAD one", x.reach(1, 0, 0, 0), -1);
        due("reach, BAD one", x.reach(-1, 0, 0, 0), -1);
        due("reach, BAD thing", x.reach(0, 6, 0, 0), -1);
        due("reach, BAD thing", x.reach(0, -1, 0, 0), -1);
        due("reach, BAD hour", x.reach(0, 0, 4, 0), -1);
        due("reach, BAD hour", x.reach(0, 0, -1, 0), -1);
        due("reach, BAD what", x.reach(0, 0, 0, 2), -1);
        due("reach, BAD what", x.reach(0, 0, 0, -1), -1);
        EveningFirst z = told("hours 8;one forth;deed 0 0 0 0;deed 1 0 0 1 0;deed 2 0 0 2 1;deed 3 0 0 3 2;"
                + "deed 4 0 0 4 3;deed 5 0 0 5 4;deed 6 0 0 0 5;deed 6 0 0 1 5;");
        for (int d = 0; d < 8; d++) {
            z.mark(d, 1);
        }
        due("reach(0, 0, 7, 0), by all eight", z.reach(0, 0, 7, 0), 8);
        due("reach(0, 0, 7, 1), by all eight", z.reach(0, 0, 7, 1), 255);
        EveningFirst y = told("one forth;deed 0 0 0 1;deed 1 0 0 0;deed 2 0 0 0;");
        due("reach(0, 0, 3, 1), of several the least", y.reach(0, 0, 3, 1), 2);
    }

    private static void better() {
        promise = 23;
        EveningFirst x = told("hours 5;one forth;deed 4 0 0 0;deed 2 0 0 1 0;deed 3 0 0 2 0;");
        due("greatest()", x.greatest(), 1);
        due("better(0, 0)", x.better(0, 0), 0);
        due("better(0, 1)", x.better(0, 1), 3);
        due("better(1, 0)", x.better(1, 0), -4);
        due("better(1, 1)", x.better(1, 1), -4);
        due("better(3, 0)", x.better(3, 0), -1);
        due("better(-1, 0)", x.better(-1, 0), -1);
        due("better(0, 2)", x.better(0, 2), -1);
        due("better(0, -1)", x.better(0, -1), -1);
        due("deed(0, 0) as it was", x.deed(0, 0), 4);
        x.shift(0, 2);
        due("better(0, 0), more than now", x.better(0, 0), 0);
        x.shift(0, 1);
        due("better(0, 0), not more than now", x.better(0, 0), -4);
        x.go(0, 1);
        due("better(0, 0), back", x.better(0, 0), 4);
        x.mark(1, 2);
        due("better(0, 1), one that must not be", x.better(0, 1), 2);
    }

    private static void common() {
        promise = 24;
        EveningFirst x = told("hours 5;one forth;one back;one other 3;deed 1 0 0 0;deed 3 0 1 0;deed 0 0 0 5 4;");
        due("common(0, 1, 0)", x.common(0, 1, 0), 4);
        due("common(1, 0, 0)", x.common(1, 0, 0), 4);
        due("common(0, 2, 0)", x.common(0, 2, 0), 0);
        due("common(0, 1, 5), not of the greatest", x.common(0, 1, 5), 0);
        x.birth(1, 8);
        due("common(1, 2, 3)", x.common(1, 2, 3), 31);
        x.mark(0, 2);
        due("common(0, 1, 0), one that must not be", x.common(0, 1, 0), 0);
        due("common(1, 1, 0)", x.common(1, 1, 0), -1);
        due("common(3, 0, 0)", x.common(3, 0, 0), -1);
        due("common(0, 3, 0)", x.common(0, 3, 0), -1);
        due("common(-1, 0, 0)", x.common(-1, 0, 0), -1);
        due("common(0, -1, 0)", x.common(0, -1, 0), -1);
        due("common(0, 1, 6)", x.common(0, 1, 6), -1);
        due("common(0, 1, -1)", x.common(0, 1, -1), -1);
    }

    private static void fraction(EveningFirst x, String when, long over, long under) {
        due("odds(0), " + when, x.odds(0), over);
        due("odds(1), " + when, x.odds(1), under);
    }

    private static void odds() {
        promise = 25;
        EveningFirst x = round();
        fraction(x, "all for sure", 1, 1);
        x.odd(0, 5);
        fraction(x, "one of two that go round", 1, 2);
        x.odd(1, 4);
        fraction(x, "both or none", 1, 2);
        x.odd(1, 2);
        fraction(x, "both or none", 1, 2);
        x.odd(0, 1);
        fraction(x, "both or none", 37, 50);
        x.odd(2, 0);
        fraction(x, "3 lacks what 2 gives", 0, 1);
        x.mark(2, 1);
        fraction(x, "2 for sure", 37, 50);
        x.mark(3, 2);
        x.mark(2, 2);
        fraction(x, "2 and 3 never", 37, 50);
        due("odds(2)", x.odds(2), -1);
        due("odds(-1)", x.odds(-1), -1);
        EveningFirst y = told("hours 8;one forth;deed 0 0 0 0;deed 1 0 0 1 0;deed 2 0 0 2 1;deed 3 0 0 3 2;"
                + "deed 4 0 0 4 3;deed 5 0 0 5 4;deed 6 0 0 0 5;deed 7 0 0 1 5;");
        for (int d = 0; d < 8; d++) {
            y.odd(d, 9);
        }
        // deeds 0 to 5 each want the one ahead: k of them are done (9 to the k), the next and all behind are not (1);
        // with all six done, 6 and 7 are free (100)
        long sum = 0;
        long begun = 1;
        for (int k = 0; k < 6; k++) {
            sum += begun;
            begun *= 9;
        }
        sum += begun * 100;
        // 53210530 by 100000000, in lowest terms
        fraction(y, "a row of eight", sum / 10, 10_000_000L);
    }

    private static void luck() {
        promise = 26;
        EveningFirst x = round();
        x.odd(2, 3);
        x.mark(3, 2);
        due("luck(0, 2, 1, 0)", x.luck(0, 2, 1, 0), 3);
        due("luck(0, 2, 1, 1)", x.luck(0, 2, 1, 1), 10);
        due("luck(0, 2, 0, 0)", x.luck(0, 2, 0, 0), 0);
        due("luck(0, 2, 0, 1)", x.luck(0, 2, 0, 1), 1);
        x.birth(0, 4);
        due("luck(0, 2, 0, 0), at his beginning", x.luck(0, 2, 0, 0), 1);
        due("luck(0, 2, 0, 1), at his beginning", x.luck(0, 2, 0, 1), 1);
        x.odd(0, 5);
        due("luck(0, 2, 0, 0), that it hangs together", x.luck(0, 2, 0, 0), 1);
        due("luck(0, 2, 0, 1), that it hangs together", x.luck(0, 2, 0, 1), 2);
        due("luck(1, 0, 0, 1), both go round", x.luck(1, 0, 0, 1), 2);
        due("luck, BAD one", x.luck(2, 0, 0, 0), -1);
        due("luck, BAD one", x.luck(-1, 0, 0, 0), -1);
        due("luck, BAD thing", x.luck(0, 6, 0, 0), -1);
        due("luck, BAD thing", x.luck(0, -1, 0, 0), -1);
        due("luck, BAD hour", x.luck(0, 0, 4, 0), -1);
        due("luck, BAD hour", x.luck(0, 0, -1, 0), -1);
        due("luck, BAD what", x.luck(0, 0, 0, 2), -1);
        due("luck, BAD what", x.luck(0, 0, 0, -1), -1);
    }

    private static void seeForget() {
        EveningFirst x = told("hours 3;one forth;");
        promise = 27;
        due("see, BAD one", x.see(1, 0, 0, true), -1);
        due("see, BAD one", x.see(-1, 0, 0, true), -1);
        due("see, BAD thing", x.see(0, 6, 0, true), -1);
        due("see, BAD thing", x.see(0, -1, 0, true), -1);
        due("see, BAD hour", x.see(0, 0, 3, true), -1);
        due("see, BAD hour", x.see(0, 0, -1, true), -1);
        for (int i = 1; i <= 8; i++) {
            due("see, the " + i + "th", x.see(0, 5, 2, i == 1), i);
        }
        due("see, the 9th", x.see(0, 0, 0, true), -3);
        due("see, the 9th and BAD", x.see(0, 0, 3, true), -1);
        due("ways(0), seen is what cannot be", x.ways(0), 0);
        promise = 28;
        due("forget(9)", x.forget(9), -1);
        due("forget(-1)", x.forget(-1), -1);
        due("forget(8)", x.forget(8), 8);
        due("forget(1)", x.forget(1), 8);
        due("forget(2)", x.forget(2), -1);
        due("ways(0), the first stands", x.ways(0), 0);
        due("forget(0)", x.forget(0), 1);
        due("ways(0)", x.ways(0), 3);
        due("count(2)", x.count(2), 0);
    }

    private static void ways() {
        promise = 29;
        EveningFirst x = told("hours 4;one forth;one forth;one forth;one forth;deed 1 0 1 0;deed 2 1 3 1 0;");
        due("ways(0), nothing seen", x.ways(0), 81);
        due("ways(1), nothing seen", x.ways(1), 0);
        due("ways(13), nothing seen", x.ways(13), 7);
        x.see(1, 0, 2, true);
        due("ways(0): 1 goes forth", x.ways(0), 27);
        due("ways(11)", x.ways(11), 1);
        x.forget(0);
        x.see(1, 0, 2, false);
        due("ways(0): 1 goes back or other", x.ways(0), 54);
        due("ways(1)", x.ways(1), 3);
        due("ways(11)", x.ways(11), 6);
        x.forget(0);
        // 3 gets thing 1 in hour 2 only if 1 goes forth; hour 1 lies behind it by back (3 2 1 0) and other (0 2 3 1)
        x.see(3, 1, 1, true);
        due("ways(0)", x.ways(0), 18);
        due("ways(1)", x.ways(1), 27);
        due("ways(13)", x.ways(13), 6);
        x.see(3, 1, 3, true);
        due("ways(0): 3 goes other", x.ways(0), 9);
        due("ways(1)", x.ways(1), 54);
        due("ways(13)", x.ways(13), 4);
        due("ways(10)", x.ways(10), 7);
        due("one(3, 0) as it was", x.one(3, 0), 0);
        x.mark(1, 2);
        due("ways(0), none", x.ways(0), 0);
        due("ways(1), none", x.ways(1), -4);
        due("ways(10), none", x.ways(10), 0);
        due("ways(14)", x.ways(14), -1);
        due("ways(9)", x.ways(9), -1);
        due("ways(2)", x.ways(2), -1);
        due("ways(-1)", x.ways(-1), -1);
        EveningFirst y = told("one back;one back;");
        due("ways(0) of two", y.ways(0), 9);
        due("ways(12) of two", y.ways(12), -1);
    }

    private static void walk() {
        promise = 30;
        EveningFirst x = told("one forth;one back;");
        due("walk, no deeds", x.walk(1, 1), -2);
        due("walk, no deeds and BAD", x.walk(1, 0), -1);
        x.does(0, 0, 0, 0, 0);
        due("walk(5, 1), one deed", x.walk(5, 1), 1);
        x.does(1, 0, 0, 1, 1);
        x.does(2, 0, 1, 2, 2);
        due("walk(1, 0)", x.walk(1, 0), -1);
        due("walk(1, 61)", x.walk(1, 61), -1);
        due("walk(1, -1)", x.walk(1, -1), -1);
        // seed 1: 1103527590, its bits 16 to 30 are 16838, modulo 3 is 2: it wants what is not there
        due("walk(1, 1)", x.walk(1, 1), 0);
        due("walk(1, 60)", x.walk(1, 60), 7);
        // seed 0: 12345, its bits 16 to 30 are 0
        due("walk(0, 1)", x.walk(0, 1), 1);
        // then 2524885223 (5758: 1), 662824084 (10113: 0)
        due("walk(1, 2)", x.walk(1, 2), 0);
        due("walk(1, 3)", x.walk(1, 3), 1);
        due("walk(-7, 60)", x.walk(-7, 60), 7);
        x.mark(1, 2);
        due("walk(1, 60), one that must not be", x.walk(1, 60), 1);
        due("rule(2) by itself", x.rule(2), 3);
    }

    private static void keepBack() {
        EveningFirst x = told("hours 3;one forth 1;one back;deed 0 0 1 2 1;odds 0 4;must 0;");
        promise = 31;
        due("keep(2)", x.keep(2), -1);
        due("keep(-1)", x.keep(-1), -1);
        x.see(0, 1, 0, true);
        due("keep(0)", x.keep(0), 0);
        due("keep(0) again", x.keep(0), 1);
        due("keep(1)", x.keep(1), 0);
        x.does(1, 1, 0, 3, 4);
        x.go(0, 2);
        x.birth(1, 7);
        x.shift(0, 2);
        x.mark(0, 2);
        x.odd(0, 1);
        x.see(1, 1, 1, false);
        due("keep(1), another", x.keep(1), 1);
        promise = 32;
        due("back(2)", x.back(2), -1);
        due("back(-1)", x.back(-1), -1);
        due("back(0)", x.back(0), 1);
        int[] first = {0, 0, 1, 2, 2, 1, 4};
        for (int what = 0; what < 7; what++) {
            due("deed(0, " + what + ")", x.deed(0, what), first[what]);
        }
        due("one(0, 0)", x.one(0, 0), 0);
        due("one(1, 1)", x.one(1, 1), 0);
        due("count(2)", x.count(2), 1);
        due("count(3)", x.count(3), 2);
        x.forget(0);
        x.see(0, 1, 0, false);
        due("back(1)", x.back(1), 2);
        due("deed(0, 5)", x.deed(0, 5), 2);
        due("deed(1, 4)", x.deed(1, 4), 4);
        due("one(0, 0)", x.one(0, 0), 2);
        due("one(1, 1)", x.one(1, 1), 7);
        due("count(2)", x.count(2), 2);
        due("back(0) a second time", x.back(0), 1);
        due("ways(0): what was seen is so again", x.ways(0), 9);
        tell(x, "");
        due("back(0) behind a text", x.back(0), -2);
        due("keep(0) behind a text", x.keep(0), 0);
    }

    private static void sheetLay() {
        EveningFirst x = told("one forth;deed 0 0 0 0;");
        promise = 33;
        due("sheet(-1, 0, 1)", x.sheet(-1, 0, 1), -1);
        due("sheet(4, 0, 1)", x.sheet(4, 0, 1), -1);
        due("sheet(0, -1, 1)", x.sheet(0, -1, 1), -1);
        due("sheet(0, 3, 1)", x.sheet(0, 3, 1), -1);
        due("sheet(0, 0, 41)", x.sheet(0, 0, 41), -1);
        due("sheet(4, 0, -1)", x.sheet(4, 0, -1), -1);
        due("sheet(0, 3, -1)", x.sheet(0, 3, -1), -1);
        due("sheet(0, 0, -1)", x.sheet(0, 0, -1), -14);
        due("count(5), still nothing", x.count(5), -4);
        due("sheet(0, 0, 0)", x.sheet(0, 0, 0), 1);
        due("count(5)", x.count(5), 0);
        due("sheet(0, 2, 40)", x.sheet(0, 2, 40), 1);
        due("sheet(0, 0, -1)", x.sheet(0, 0, -1), -14);
        due("count(5), as it was", x.count(5), 40);
        promise = 34;
        due("lay(0, 39, 1)", x.lay(0, 39, 1), 1);
        due("lay(0, 40, 1)", x.lay(0, 40, 1), -12);
        due("lay(0, -1, 1)", x.lay(0, -1, 1), -12);
        due("lay(1, -1, 1)", x.lay(1, -1, 1), -11);
        due("lay(4, 0, 1)", x.lay(4, 0, 1), -1);
        due("lay(-1, 0, 1)", x.lay(-1, 0, 1), -1);
        for (int lane = 0; lane < 3; lane++) {
            x.sheet(1, lane, 2);
            x.lay(1, 1, 0x0101);
            due("read of 257 as of " + lane, x.read(1, lane, 0, 1), lane == 0 ? 1 : -20);
            x.lay(1, 1, 0x10002);
            due("read of 65538 as of " + lane, x.read(1, lane, 0, 1), lane < 2 ? 1 : -20);
            x.lay(1, 1, 255);
            due("read of 255 as of " + lane, x.read(1, lane, 0, 1), -20);
            promise = 33;
            x.lay(1, 0, 1);
            x.sheet(1, lane, 2);
            due("a new row is of 0", x.read(1, lane, 0, 1), 1);
            due("a new row is of 0", x.deed(0, 5), 0);
            promise = 34;
        }
    }

    private static void read() {
        promise = 35;
        EveningFirst x = told("one forth;deed 0 0 0 0;deed 1 0 0 0;deed 2 0 0 0;");
        due("read, BAD sheet", x.read(4, 0, 0, 1), -1);
        due("read, BAD sheet", x.read(-1, 0, 0, 1), -1);
        due("read, BAD lane", x.read(0, 3, 0, 1), -1);
        due("read, BAD lane", x.read(0, -1, 0, 1), -1);
        due("read, BAD n", x.read(0, 0, 0, 21), -1);
        due("read, BAD n", x.read(0, 0, 0, -1), -1);
        due("read of nothing", x.read(0, 1, 0, 1), 0);
        due("torn() of nothing", x.torn(), 1);
        due("read of none of nothing", x.read(0, 1, 0, 0), 0);
        due("torn(), the machine is not asked for a cell", x.torn(), 0);
        int[] cells = {9, 0, 1, 2, 2, 1, 2};
        x.sheet(0, 1, cells.length);
        for (int i = 0; i < cells.length; i++) {
            x.lay(0, i, cells[i]);
        }
        due("read(0, 1, 1, 2)", x.read(0, 1, 1, 2), 2);
        due("torn()", x.torn(), 0);
        due("deed(0, 5)", x.deed(0, 5), 1);
        due("deed(2, 5)", x.deed(2, 5), 2);
        due("read(0, 1, 3, 9)", x.read(0, 1, 3, 9), 2);
        due("torn(), INDEX", x.torn(), 2);
        due("deed(1, 5)", x.deed(1, 5), 2);
        due("deed(2, 5)", x.deed(2, 5), 2);
        due("read(0, 1, 2, 9), half a one at the end", x.read(0, 1, 2, 9), 2);
        due("deed(1, 5)", x.deed(1, 5), 2);
        due("deed(2, 5)", x.deed(2, 5), 1);
        due("read as of another lane", x.read(0, 0, 1, 1), 0);
        due("torn(), CAST", x.torn(), 3);
        due("read(0, 1, 0, 1), no such deed", x.read(0, 1, 0, 1), -20);
        promise = 36;
        due("torn() as it was", x.torn(), 3);
        due("read, BAD", x.read(0, 1, 0, 21), -1);
        due("torn() as it was", x.torn(), 3);
        due("read(0, 1, 1, 0)", x.read(0, 1, 1, 0), 0);
        due("torn()", x.torn(), 0);
        due("read(0, 1, -1, 1)", x.read(0, 1, -1, 1), 0);
        due("torn(), INDEX", x.torn(), 2);
        due("read(0, 1, greatest, 20)", x.read(0, 1, Integer.MAX_VALUE, 20), 0);
        due("read(0, 1, least, 20)", x.read(0, 1, Integer.MIN_VALUE, 20), 0);
        due("read(0, 1, 7, 1)", x.read(0, 1, 7, 1), 0);
        due("read(0, 1, 7, 0)", x.read(0, 1, 7, 0), 0);
        due("torn()", x.torn(), 0);
        promise = 35;
        x.mark(0, 0);
        x.lay(0, 1, 0);
        x.lay(0, 2, 1);
        x.lay(0, 3, 1);
        x.lay(0, 4, 3);
        due("read, the second is BAD", x.read(0, 1, 1, 9), -21);
        due("deed(0, 5): then none came", x.deed(0, 5), 0);
        x.lay(0, 4, -1);
        due("read, the second is BAD", x.read(0, 1, 1, 9), -21);
        x.lay(0, 4, 1);
        x.lay(0, 3, 3);
        due("read, no such deed", x.read(0, 1, 1, 9), -21);
        x.lay(0, 3, -1);
        due("read, no such deed", x.read(0, 1, 1, 9), -21);
        due("read, it is not asked for", x.read(0, 1, 1, 1), 1);
        x.lay(0, 3, 0);
        x.lay(0, 4, 2);
        due("read, one deed twice", x.read(0, 1, 1, 2), 2);
        due("deed(0, 5), by the latter", x.deed(0, 5), 2);
        x.sheet(3, 0, 40);
        due("read(3, 0, 0, 20)", x.read(3, 0, 0, 20), 20);
        due("torn()", x.torn(), 0);
        due("read(3, 0, 1, 20)", x.read(3, 0, 1, 20), 19);
        due("torn()", x.torn(), 2);
    }

    private static void count() {
        promise = 37;
        EveningFirst x = told("one forth;deed 0 0 0 0;deed 1 0 0 0;deed 2 0 0 0 5;deed 2 0 0 0;must 0;must 2;never 1;");
        x.see(0, 0, 0, true);
        x.see(0, 0, 0, false);
        x.keep(1);
        feed(x, "one ");
        x.sheet(1, 0, 2);
        due("count(0)", x.count(0), 2);
        due("count(1)", x.count(1), 1);
        due("count(2)", x.count(2), 2);
        due("count(3)", x.count(3), 1);
        due("count(4)", x.count(4), 4);
        due("count(5)", x.count(5), -4);
        due("count(6)", x.count(6), 2);
        due("count(7)", x.count(7), -1);
        due("count(-1)", x.count(-1), -1);
        x.keep(0);
        x.sheet(0, 2, 7);
        due("count(3)", x.count(3), 2);
        due("count(5)", x.count(5), 7);
    }
}
