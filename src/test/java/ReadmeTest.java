import java.io.File;
import java.lang.reflect.Method;
import java.lang.reflect.Modifier;
import java.lang.reflect.Parameter;
import java.nio.file.Files;
import java.nio.file.Path;
import java.util.Set;
import java.util.StringJoiner;
import java.util.TreeSet;
import java.util.regex.Matcher;
import java.util.regex.Pattern;

/** README.md names each call and each test of the project, and its examples answer what it says. */
public final class ReadmeTest extends Trial {
    private static final Pattern TABLE_CALL = Pattern.compile("`(\\w+\\([^`]*\\))`");
    private static final Pattern EXAMPLE = Pattern.compile("bell\\.(\\w+\\(.*\\)); +// (-?\\d+): .*");

    public static void main(String[] args) throws Exception {
        String readme = Files.readString(Path.of(args[2]));
        callsAreNamed(readme);
        examplesHold(readme);
        textHolds(readme);
        testsAreNamed(readme, Path.of(args[2]).toAbsolutePath().getParent());
        close("the README holds");
    }

    /** Each with its parameters as the document names them, and no call that there isn't. */
    private static void callsAreNamed(String readme) {
        Set<String> named = new TreeSet<>();
        for (String line : readme.split("\n")) {
            Matcher matcher = TABLE_CALL.matcher(line);
            while (line.startsWith("|") && matcher.find()) {
                named.add(matcher.group(1));
            }
        }
        Set<String> calls = new TreeSet<>();
        for (Method method : UnexpectedBell.class.getDeclaredMethods()) {
            if (Modifier.isPublic(method.getModifiers())) {
                calls.add(told(method));
            }
        }
        if (!named.equals(calls)) {
            fail("README names " + named + ", the calls are " + calls);
        }
    }

    private static String told(Method method) {
        StringJoiner parameters = new StringJoiner(", ", method.getName() + "(", ")");
        for (Parameter parameter : method.getParameters()) {
            parameters.add(parameter.getName());
        }
        return parameters.toString();
    }

    /** All of them one after the other on one object, as they are written. */
    private static void examplesHold(String readme) {
        UnexpectedBell bell = fresh();
        int examples = 0;
        for (String line : readme.split("\n")) {
            Matcher matcher = EXAMPLE.matcher(line);
            if (matcher.matches()) {
                due(matcher.group(1), ask(bell, matcher.group(1)), Long.parseLong(matcher.group(2)));
                examples++;
            } else if (line.startsWith("bell.")) {
                fail("an example without an answer: " + line);
            }
        }
        if (examples == 0) {
            fail("README has no example");
        }
    }

    private static void textHolds(String readme) {
        Matcher matcher = Pattern.compile("(?m)^ {4}(term .*)$").matcher(readme);
        if (!matcher.find()) {
            fail("README has no school as a text");
            return;
        }
        int statements = matcher.group(1).split(";").length;
        due("school of '" + matcher.group(1) + "'", read(fresh(), matcher.group(1)), statements);
    }

    private static void testsAreNamed(String readme, Path root) {
        String[] files = new File(root.toFile(), "src/test/java").list();
        if (files == null) {
            fail("no tests beside the README");
            return;
        }
        for (String file : files) {
            if (file.endsWith("Test.java") && !readme.contains("- `" + file.replace(".java", "") + "`: ")) {
                fail("README doesn't tell of " + file);
            }
        }
        if (!readme.contains("\n    .ci/run\n")) {
            fail("README doesn't tell how to run the tests");
        }
    }
}
