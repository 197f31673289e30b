import java.lang.reflect.Constructor;
import java.lang.reflect.Field;
import java.lang.reflect.Method;
import java.lang.reflect.Modifier;
import java.nio.file.Files;
import java.nio.file.Path;
import java.util.ArrayList;
import java.util.List;
import java.util.TreeSet;
import java.util.regex.Matcher;
import java.util.regex.Pattern;

/** The document's face to the letter, and those rules of LANGUAGE.md that can be looked for in the class and its source. */
public final class RulesTest {
    private static final String[] FACE = {
        "int feed(int)", "int end(int)", "int text()", "int fault()", "int rule(int)", "int one(int,int)",
        "int deed(int,int)", "int go(int,int)", "int birth(int,int)", "int does(int,int,int,int,int)",
        "int shift(int,int)", "int mark(int,int)", "int odd(int,int)", "int has(int,int,int)", "int hangs(int)",
        "int lacks(int,int)", "int days(int)", "int greatest()", "int made(int)", "int stop(int)",
        "int reach(int,int,int,int)", "int better(int,int)", "int common(int,int,int)", "long odds(int)",
        "long luck(int,int,int,int)", "int see(int,int,int,boolean)", "int forget(int)", "int ways(int)",
        "int walk(int,int)", "int keep(int)", "int back(int)", "int sheet(int,int,int)", "int lay(int,int,int)",
        "int read(int,int,int,int)", "int torn()", "int count(int)",
    };
    /** Ahead of which calls the document's interface says what. */
    private static final String[][] SECTIONS = {
        {"the text", "feed", "end", "text", "fault", "rule", "one", "deed"},
        {"what is changed", "go", "birth", "does", "shift", "mark", "odd"},
        {"a day", "has", "hangs", "lacks"},
        {"all days", "days", "greatest", "made", "stop"},
        {"plans", "reach", "better", "common"},
        {"odds", "odds", "luck"},
        {"seen", "see", "forget", "ways"},
        {"by a seed", "walk"},
        {"images, sheets", "keep", "back", "sheet", "lay", "read", "torn", "count"},
    };
    private static final String[] FORBIDDEN = {
        "throw", "throws", "try", "catch", "finally", "synchronized", "assert", "import", "package", "volatile", "native",
        "transient", "protected", "Object", "Random", "System.in", "System.out", "Thread", "hashCode", "toString",
        "->", "::",
    };
    private static int wrong = 0;

    private static void rule(boolean kept, String what) {
        if (!kept) {
            wrong++;
            System.out.println("not kept: " + what);
        }
    }

    public static void main(String[] args) throws Exception {
        TreeSet<String> names = face();
        String source = Files.readString(Path.of("src/main/java/EveningFirst.java"));
        String code = bare(source);
        sections(source);
        words(code);
        methods(code);
        classes(EveningFirst.class, names);
        System.out.println("RulesTest: " + wrong + " wrong");
        if (wrong != 0) {
            System.exit(1);
        }
    }

    private static TreeSet<String> face() throws Exception {
        Class<?> c = EveningFirst.class;
        rule(c.getModifiers() == (Modifier.PUBLIC | Modifier.FINAL), "public and final");
        TreeSet<String> want = new TreeSet<>(List.of(FACE));
        TreeSet<String> got = new TreeSet<>();
        TreeSet<String> names = new TreeSet<>();
        for (Method m : c.getDeclaredMethods()) {
            if (Modifier.isPrivate(m.getModifiers())) {
                continue;
            }
            rule(m.getModifiers() == Modifier.PUBLIC, "nothing but public beside private: " + m);
            names.add(m.getName());
            List<String> types = new ArrayList<>();
            for (Class<?> t : m.getParameterTypes()) {
                types.add(t.getName());
            }
            got.add(m.getReturnType().getName() + " " + m.getName() + "(" + String.join(",", types) + ")");
        }
        rule(got.equals(want), "the methods of the document: " + got);
        Constructor<?>[] made = c.getDeclaredConstructors();
        rule(made.length == 1 && Modifier.isPublic(made[0].getModifiers()) && made[0].getParameterCount() == 0,
                "one constructor");
        TreeSet<String> constants = new TreeSet<>();
        for (Field f : c.getDeclaredFields()) {
            if (!Modifier.isPrivate(f.getModifiers())) {
                constants.add(f.getName() + " " + f.getInt(null));
            }
        }
        rule(constants.equals(new TreeSet<>(List.of("BAD -1", "STATE -2", "FULL -3", "NONE -4"))), "constants " + constants);
        return names;
    }

    private static void sections(String source) {
        Matcher m = Pattern.compile("(?m)^    // ---- (.*)$|^    public (?:int|long) ([a-z]+)\\(").matcher(source);
        StringBuilder got = new StringBuilder();
        while (m.find()) {
            got.append(m.group(1) != null ? "; " + m.group(1) + ":" : " " + m.group(2));
        }
        StringBuilder want = new StringBuilder();
        for (String[] section : SECTIONS) {
            want.append("; ").append(String.join(" ", section).replaceFirst(section[0], section[0] + ":"));
        }
        rule(got.toString().startsWith(want.toString()), "the calls by the document's order: " + got);
    }

    private static void classes(Class<?> c, TreeSet<String> names) {
        Class<?>[] inside = c.getDeclaredClasses();
        rule(inside.length <= 12, "at most twelve classes");
        for (Class<?> one : inside) {
            rule(Modifier.isStatic(one.getModifiers()), "static: " + one);
            members(one, names);
        }
        members(c, new TreeSet<>());
    }

    private static void members(Class<?> c, TreeSet<String> names) {
        int fields = 0;
        for (Field f : c.getDeclaredFields()) {
            boolean constant = Modifier.isStatic(f.getModifiers());
            fields += constant ? 0 : 1;
            rule(!constant || Modifier.isFinal(f.getModifiers()), "static fields are final: " + f);
        }
        rule(fields <= 20, "at most twenty fields: " + c);
        for (Method m : c.getDeclaredMethods()) {
            rule(!names.contains(m.getName()), "no other method has the name of a public one: " + m);
            rule(m.getParameterCount() <= 7, "at most seven parameters: " + m);
            rule(!m.isSynthetic(), "nothing made by the compiler: " + m);
        }
    }

    /** Without comments, texts and characters. */
    private static String bare(String source) {
        return source.replaceAll("(?s)/\\*.*?\\*/", " ").replaceAll("//[^\n]*", " ")
                .replaceAll("\"[^\"\n]*\"", "TEXT").replaceAll("'[^'\n]*'", "SIGN");
    }

    private static void words(String code) {
        for (String word : FORBIDDEN) {
            boolean plain = Character.isLetter(word.charAt(0));
            Pattern p = Pattern.compile(plain ? "\\b" + Pattern.quote(word) + "\\b" : Pattern.quote(word));
            rule(!p.matcher(code).find(), "no " + word);
        }
    }

    private static void methods(String code) {
        Matcher m = Pattern.compile("(?m)^( {4}| {8})[a-z][\\w\\[\\] ]*\\w+\\([^)]*\\) \\{\n(?s:(.*?))^\\1\\}").matcher(code);
        int found = 0;
        while (m.find()) {
            found++;
            rule(m.group().split("\n").length <= 60, "methods stay short: " + m.group().split("\n")[0]);
        }
        rule(found > 60, "the methods were found: " + found);
    }
}
