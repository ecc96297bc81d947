import java.io.IOException;
import java.lang.reflect.InvocationTargetException;
import java.lang.reflect.Method;
import java.lang.reflect.Modifier;
import java.nio.file.Files;
import java.nio.file.Path;
import java.util.regex.Matcher;
import java.util.regex.Pattern;

/** README.md tells a run of calls with their answers: the class must give just these. */
public final class ReadmeTest {
    private static final Pattern MADE = Pattern.compile("AnsTables x = new AnsTables\\((\\d+)\\);.*");
    private static final Pattern CALL = Pattern.compile("x\\.(\\w+)\\(([-\\d, ]*)\\); +// (-?\\d+)\\b.*");
    private static int wrong = 0;
    private static int calls = 0;

    private ReadmeTest() {
    }

    public static void main(String[] args) throws IOException {
        String text = Files.readString(Path.of("README.md"));
        runOf(text);
        everyCallIsNamed(text);
        check(text.contains("\n    .ci/run\n"), "README.md says how to run the tests");
        System.out.println(calls + " calls of README.md, " + wrong + " things are not as due");
        if (wrong != 0) {
            System.exit(1);
        }
    }

    private static void check(boolean holds, String what) {
        if (!holds) {
            wrong++;
            System.out.println("not so: " + what);
        }
    }

    private static void runOf(String text) {
        int begin = text.indexOf("```java\n");
        int end = text.indexOf("```\n", begin + 1);
        if (begin < 0 || end < 0) {
            check(false, "README.md has a run of calls");
            return;
        }
        AnsTables x = null;
        for (String line : text.substring(begin, end).split("\n")) {
            Matcher made = MADE.matcher(line);
            Matcher call = CALL.matcher(line);
            if (made.matches()) {
                x = new AnsTables(Integer.parseInt(made.group(1)));
            } else if (call.matches() && x != null) {
                calls++;
                String got = answerOf(x, call.group(1), call.group(2));
                check(got.equals(call.group(3)), line + " (answered " + got + ")");
            } else {
                check(line.equals("```java"), "a call and its answer: " + line);
            }
        }
        check(calls > 0, "the run has calls");
    }

    private static String answerOf(AnsTables x, String name, String given) {
        String[] texts = given.isBlank() ? new String[0] : given.split(", ");
        Object[] values = new Object[texts.length];
        Class<?>[] types = new Class<?>[texts.length];
        for (int i = 0; i < texts.length; i++) {
            values[i] = Integer.valueOf(texts[i]);
            types[i] = int.class;
        }
        try {
            return String.valueOf(AnsTables.class.getMethod(name, types).invoke(x, values));
        } catch (InvocationTargetException e) {
            return "throws." + e.getCause().getClass().getSimpleName();
        } catch (ReflectiveOperationException e) {
            return "no such call";
        }
    }

    private static void everyCallIsNamed(String text) {
        for (Method method : AnsTables.class.getDeclaredMethods()) {
            if (Modifier.isPublic(method.getModifiers())) {
                check(text.contains("`" + method.getName() + "`"), "README.md names " + method.getName());
            }
        }
    }
}
