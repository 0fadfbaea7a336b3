import java.io.IOException;
import java.lang.reflect.InvocationTargetException;
import java.lang.reflect.Method;
import java.lang.reflect.Modifier;
import java.nio.file.Files;
import java.nio.file.Path;
import java.util.Set;
import java.util.TreeSet;
import java.util.regex.Matcher;
import java.util.regex.Pattern;

/** What README.md says the calls answer, they answer; run from the project's root. */
public final class ReadmeTest {
    private static final Check CHECK = new Check("ReadmeTest");
    private static final Path README = Path.of("README.md");
    private static final Path TESTS = Path.of("src/test/java");
    private static final String MADE = "EvenClock clock = new EvenClock();";
    private static final Pattern CALL =
            Pattern.compile("clock\\.(\\w+)\\(([^)]*)\\);(?: +// (throws \\w+|[\\w-]+).*)?");

    private final Set<String> called = new TreeSet<>();
    private EvenClock clock;

    public static void main(String[] args) throws IOException {
        ReadmeTest test = new ReadmeTest();
        boolean inJava = false;
        for (String line : Files.readAllLines(README)) {
            if (line.startsWith("```")) {
                inJava = line.equals("```java");
            } else if (inJava) {
                test.follow(line);
            }
        }
        test.everyCallIsShown();
        everyTestIsNamed();
        CHECK.end();
    }

    private void follow(String line) {
        Matcher call = CALL.matcher(line);
        if (line.equals(MADE)) {
            clock = new EvenClock();
        } else if (call.matches()) {
            String due = call.group(3) == null ? "nothing" : call.group(3);
            String got = answer(call.group(1), call.group(2));
            CHECK.that(line + " answered " + got, due.equals(got));
            called.add(call.group(1));
        } else {
            CHECK.that("no call: " + line, false);
        }
    }

    private String answer(String name, String arguments) {
        String[] words = arguments.isEmpty() ? new String[0] : arguments.split(", ");
        try {
            Method method = named(name);
            Object[] values = new Object[words.length];
            for (int k = 0; k < words.length; k++) {
                boolean number = method.getParameterTypes()[k] == int.class;
                values[k] = number ? (Object) Integer.valueOf(words[k]) : Boolean.valueOf(words[k]);
            }
            Object answer = method.invoke(clock, values);
            return method.getReturnType() == void.class ? "nothing" : String.valueOf(answer);
        } catch (InvocationTargetException e) {
            return "throws " + e.getCause().getClass().getSimpleName();
        } catch (IllegalAccessException e) {
            return "cannot be called";
        }
    }

    private static Method named(String name) {
        for (Method method : EvenClock.class.getMethods()) {
            if (method.getName().equals(name)) {
                return method;
            }
        }
        throw new IllegalArgumentException("the class has no " + name);
    }

    private void everyCallIsShown() {
        for (Method method : EvenClock.class.getDeclaredMethods()) {
            if (Modifier.isPublic(method.getModifiers())) {
                CHECK.that(method.getName() + " is not shown", called.contains(method.getName()));
            }
        }
    }

    private static void everyTestIsNamed() throws IOException {
        String readme = Files.readString(README);
        CHECK.that("how to run the tests", readme.contains(".ci/run"));
        try (var files = Files.newDirectoryStream(TESTS, "*.java")) {
            for (Path file : files) {
                String name = file.getFileName().toString().replace(".java", "");
                CHECK.that(name + " is not named", readme.contains("`" + name + "`"));
            }
        }
    }
}
