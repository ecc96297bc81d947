import java.io.IOException;
import java.lang.reflect.Constructor;
import java.lang.reflect.Field;
import java.lang.reflect.Method;
import java.lang.reflect.Modifier;
import java.nio.file.Files;
import java.nio.file.Path;
import java.util.ArrayList;
import java.util.Arrays;
import java.util.Collections;
import java.util.List;
import java.util.Set;
import java.util.TreeSet;
import java.util.regex.Matcher;
import java.util.regex.Pattern;

/** The document's public face and those rules of LANGUAGE.md that can be seen from outside. */
public final class LanguageTest {
    private static final String SOURCE = "src/main/java/AnsTables.java";
    private static final List<String> FACE = List.of(
        "int add(int)", "int clear()", "int count(int,int)", "int counts()", "int normal()", "int share(int)",
        "long loss()", "long lg(int)", "int form(int)", "int lanes(int)", "int write()", "int read()", "int rule()",
        "int sign(int)", "int spread(int)", "long state(int,int)", "int out(int)", "int spoil(int,int)",
        "int cut(int)", "int octet(int)", "int agree()", "int told(int)");
    private static int wrong = 0;

    private LanguageTest() {
    }

    public static void main(String[] args) throws IOException {
        face();
        insides();
        source(Files.readString(Path.of(SOURCE)));
        System.out.println(wrong == 0 ? "the face and the language are as due" : wrong + " rules are broken");
        if (wrong != 0) {
            System.exit(1);
        }
    }

    private static void check(boolean holds, String what) {
        if (!holds) {
            wrong++;
            System.out.println("not so: " + what);
        }
    }

    private static void face() {
        List<String> seen = new ArrayList<>();
        for (Method m : AnsTables.class.getDeclaredMethods()) {
            if (Modifier.isPublic(m.getModifiers())) {
                String types = String.join(",", Arrays.stream(m.getParameterTypes()).map(Class::getName).toList());
                seen.add(m.getReturnType() + " " + m.getName() + "(" + types + ")");
                check(!Modifier.isStatic(m.getModifiers()), m + " is no static one");
            } else {
                check(Modifier.isPrivate(m.getModifiers()), m + " is private");
            }
        }
        Collections.sort(seen);
        List<String> due = new ArrayList<>(FACE);
        Collections.sort(due);
        check(seen.equals(due), "the face is " + due + ", not " + seen);
        Constructor<?>[] made = AnsTables.class.getDeclaredConstructors();
        check(made.length == 1 && Modifier.isPublic(made[0].getModifiers()), "one public constructor");
        check(Modifier.isFinal(AnsTables.class.getModifiers()), "the class is final");
        Set<String> constants = new TreeSet<>();
        for (Field f : AnsTables.class.getDeclaredFields()) {
            if (Modifier.isPublic(f.getModifiers())) {
                constants.add(f.getName());
            } else {
                check(Modifier.isPrivate(f.getModifiers()), f + " is private");
            }
        }
        check(constants.equals(Set.of("BAD", "NONE", "FULL")), "the constants are BAD, NONE and FULL");
    }

    private static void insides() {
        Set<String> names = new TreeSet<>();
        FACE.forEach(text -> names.add(text.replaceAll("^\\w+ (\\w+).*", "$1")));
        List<Class<?>> all = new ArrayList<>(List.of(AnsTables.class.getDeclaredClasses()));
        for (Class<?> inside : all) {
            check(Modifier.isPrivate(inside.getModifiers()) && Modifier.isStatic(inside.getModifiers()),
                inside + " is private and static");
        }
        all.add(AnsTables.class);
        check(all.size() <= 12, "at most twelve classes");
        for (Class<?> each : all) {
            int own = 0;
            for (Field f : each.getDeclaredFields()) {
                boolean fixed = Modifier.isStatic(f.getModifiers());
                check(!fixed || Modifier.isFinal(f.getModifiers()), f + " is final");
                own += fixed ? 0 : 1;
            }
            check(own <= 20, each + " has at most twenty fields");
            for (Method m : each.getDeclaredMethods()) {
                check(m.getParameterCount() <= 7, m + " takes at most seven");
                check(Modifier.isPublic(m.getModifiers()) || !names.contains(m.getName()), m + " has a name of its own");
            }
        }
    }

    private static void source(String text) {
        String code = text.replaceAll("(?s)/\\*.*?\\*/", "").replaceAll("//.*", "");
        for (String word : List.of("try", "catch", "finally", "synchronized", "assert", "package", "extends", "double",
            "float", "System", "Thread", "Random", "static \\{", "\\w+Exact", "MAX_VALUE", "MIN_VALUE")) {
            check(!Pattern.compile("\\b" + word).matcher(code).find(), "the source does without " + word);
        }
        check(!code.contains("->") && !code.contains("::"), "no lambda and no method reference");
        check(count(code, "\\bimport\\b") == 1 && code.contains("import java.util.Arrays;"), "Arrays is all it imports");
        check(count(code, "\\bthrow\\b") == 1 && code.contains("throw new ArrayIndexOutOfBoundsException("),
            "it throws at one place");
        check(count(code, "\\bwhile\\b") == 0, "every loop has its counter");
        check(text.chars().allMatch(c -> c < 128), "plain characters");
    }

    private static int count(String text, String pattern) {
        Matcher m = Pattern.compile(pattern).matcher(text);
        int n = 0;
        while (m.find()) {
            n++;
        }
        return n;
    }
}
