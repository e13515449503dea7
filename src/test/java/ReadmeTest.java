import java.io.IOException;
import java.lang.reflect.InvocationTargetException;
import java.lang.reflect.Method;
import java.lang.reflect.Modifier;
import java.nio.file.Files;
import java.nio.file.Path;
import java.util.NoSuchElementException;
import java.util.Set;
import java.util.TreeSet;
import java.util.regex.Matcher;
import java.util.regex.Pattern;
import java.util.stream.Stream;

/** The example of README.md answers as the page says, and the page names every call and every test. */
public final class ReadmeTest {
    private static final Check CHECK = new Check();
    private static final String MAKING = "LandSurvey survey = new LandSurvey();";
    private static final Pattern CALL = Pattern.compile("survey\\.(\\w+)\\(([^)]*)\\);\\s+// ([^:]+)(?:: (.*))?");
    private static final Pattern QUOTED = Pattern.compile("\"(.*)\"");
    private static final int MOST_CALLS = 512;

    private static Object quick;
    private static Object slow;
    private static int calls;

    private ReadmeTest() {
    }

    public static void main(String[] args) throws IOException, IllegalAccessException {
        String page = Files.readString(Path.of("README.md"));
        Set<String> shown = new TreeSet<>();
        for (String line : example(page).split("\n")) {
            follow(line.strip(), shown);
        }
        CHECK.yes("that the example keeps within " + MOST_CALLS + " calls", calls > 0 && calls <= MOST_CALLS);
        CHECK.yes("that every call is shown: " + shown, shown.equals(face()));
        testsAreNamed(page);
        CHECK.yes("that the page tells how to run the tests", page.contains("    .ci/run\n"));
        CHECK.end("README.md");
    }

    private static String example(String page) {
        int from = page.indexOf("```java\n");
        int to = page.indexOf("\n```", from + 1);
        CHECK.yes("that README.md has an example", from >= 0 && to > from);
        return from >= 0 && to > from ? page.substring(from + "```java\n".length(), to) : "";
    }

    /** A line of another form than these would be shown without being tried, so it is wrong. */
    private static void follow(String line, Set<String> shown) throws IllegalAccessException {
        if (line.isEmpty() || line.startsWith("//")) {
            return;
        }
        if (line.equals(MAKING)) {
            quick = new LandSurvey();
            slow = new SlowSurvey();
            return;
        }
        Matcher call = CALL.matcher(line);
        boolean reads = call.matches() && quick != null;
        CHECK.yes("that this can be tried: " + line, reads);
        if (!reads) {
            return;
        }
        calls++;
        shown.add(call.group(1));
        String[] given = call.group(2).isEmpty() ? new String[0] : call.group(2).split(", ");
        answersAs(line, call.group(3), answer(quick, call.group(1), given));
        answersAs("(slow model) " + line, call.group(3), answer(slow, call.group(1), given));
        if (call.group(1).equals("feed")) {
            holdsItsText(line, given, call.group(4));
        }
    }

    private static void answersAs(String line, String due, String got) {
        CHECK.yes(line + " (it answered " + got + ")", got.equals(due.equals("NONE") ? "-1" : due));
    }

    private static String answer(Object object, String name, String[] given) throws IllegalAccessException {
        for (Method method : object.getClass().getDeclaredMethods()) {
            boolean hidden = Modifier.isPrivate(method.getModifiers());
            if (!hidden && method.getName().equals(name) && method.getParameterCount() == given.length) {
                try {
                    return String.valueOf(method.invoke(object, numbers(method, given)));
                } catch (InvocationTargetException e) {
                    boolean told = e.getCause() instanceof NoSuchElementException;
                    return told ? "NoSuchElementException" : String.valueOf(e.getCause());
                }
            }
        }
        return "no such call";
    }

    private static Object[] numbers(Method method, String[] given) {
        Object[] all = new Object[given.length];
        for (int k = 0; k < given.length; k++) {
            Class<?> type = method.getParameterTypes()[k];
            if (type == boolean.class) {
                all[k] = given[k].equals("true");
            } else if (type == long.class) {
                all[k] = eight(given[k]);
            } else {
                all[k] = Integer.parseInt(given[k]);
            }
        }
        return all;
    }

    private static long eight(String written) {
        return Long.decode(written.endsWith("L") ? written.substring(0, written.length() - 1) : written);
    }

    private static void holdsItsText(String line, String[] given, String meaning) {
        Matcher quoted = QUOTED.matcher(meaning == null ? "" : meaning);
        boolean has = quoted.find() && given.length == 3 && quoted.group(1).length() <= 24;
        CHECK.yes("that it tells its text: " + line, has);
        for (int k = 0; k < 3 && has; k++) {
            CHECK.same("the text of " + line, eight(given[k]), Check.eight(quoted.group(1), 8 * k));
        }
    }

    private static Set<String> face() {
        Set<String> names = new TreeSet<>();
        for (Method method : LandSurvey.class.getDeclaredMethods()) {
            if (Modifier.isPublic(method.getModifiers())) {
                names.add(method.getName());
            }
        }
        return names;
    }

    private static void testsAreNamed(String page) throws IOException {
        try (Stream<Path> files = Files.list(Path.of("src/test/java"))) {
            Set<String> there = new TreeSet<>();
            files.forEach(file -> there.add(file.getFileName().toString().replace(".java", "")));
            for (String name : there) {
                CHECK.yes("that README.md names " + name, page.contains("`" + name + "`"));
            }
            Matcher named = Pattern.compile("`(\\w+Test)`").matcher(page);
            while (named.find()) {
                CHECK.yes("that there is a test " + named.group(1), there.contains(named.group(1)));
            }
        }
    }
}
