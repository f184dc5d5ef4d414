import java.lang.reflect.Method;
import java.lang.reflect.Modifier;
import java.nio.file.Files;
import java.nio.file.Path;
import java.util.List;
import java.util.regex.Matcher;
import java.util.regex.Pattern;

/** README.md's example answers what it says, and no call, constant or test is missing there. */
public final class ReadmeTest {
    private static final Check CHECK = new Check("ReadmeTest");
    private static final List<String> REFUSALS = List.of("NONE", "UNKNOWN", "OUTSIDE", "NOT", "FULL");

    public static void main(String[] args) throws Exception {
        String page = Files.readString(Path.of("README.md"));
        example(only(page, "(?s)```java\n(.*?)```"));
        callsAreNamed(page);
        clausesAreNamed(page);
        testsAreNamed(page);
        CHECK.end();
    }

    private static String only(String page, String pattern) {
        Matcher found = Pattern.compile(pattern).matcher(page);
        if (!found.find()) {
            throw new IllegalArgumentException("README.md has no " + pattern);
        }
        return found.group(1);
    }

    private static void example(String code) throws Exception {
        GoldTouch x = Runs.typed(only(code, "String text = \"([^\"]*)\";"));
        Matcher line = Pattern.compile("(?m)^x\\.(\\w+)\\(([^)]*)\\);(.*)$").matcher(code);
        while (line.find()) {
            Matcher told = Pattern.compile("\\s*// (-?\\w+)\\b.*").matcher(line.group(3));
            CHECK.holds("an answer is told: " + line.group(), told.matches());
            if (told.matches()) {
                CHECK.due(line.group(), call(x, line.group(1), line.group(2)), number(told.group(1)));
            }
        }
    }

    private static long call(GoldTouch x, String name, String arguments) throws Exception {
        String[] words = arguments.isEmpty() ? new String[0] : arguments.split(", *");
        Object[] numbers = new Object[words.length];
        Class<?>[] types = new Class<?>[words.length];
        for (int i = 0; i < words.length; i++) {
            numbers[i] = number(words[i].replace("GoldTouch.", ""));
            types[i] = int.class;
        }
        return ((Number) GoldTouch.class.getMethod(name, types).invoke(x, numbers)).longValue();
    }

    private static int number(String word) {
        int refusal = REFUSALS.indexOf(word);
        return refusal >= 0 ? -1 - refusal : Integer.parseInt(word);
    }

    private static void callsAreNamed(String page) {
        for (Method m : GoldTouch.class.getDeclaredMethods()) {
            if (Modifier.isPublic(m.getModifiers())) {
                String numbers = ", \\w+".repeat(m.getParameterCount()).replaceFirst("^, ", "");
                String call = "`" + m.getName() + "\\(" + numbers + "\\)`";
                CHECK.holds("a call is named: " + call, Pattern.compile(call).matcher(page).find());
            }
        }
        for (String refusal : REFUSALS) {
            CHECK.holds(refusal + " is named", page.contains("`" + refusal + "` (" + number(refusal)));
        }
    }

    private static void clausesAreNamed(String page) {
        for (String clause : new String[] {"dead W V F", "tool W V F", "gate W V F", "being W V F", "food W V F",
            "bears F B", "wash N", "chill N", "noon M", "bare", "court"}) {
            CHECK.holds("a clause is named: " + clause, page.contains("`" + clause + "`"));
        }
    }

    private static void testsAreNamed(String page) throws Exception {
        try (var files = Files.list(Path.of("src/test/java"))) {
            for (Path file : files.sorted().toList()) {
                String name = file.getFileName().toString().replace(".java", "");
                if (name.endsWith("Test")) {
                    CHECK.holds("a test is named: " + name, page.contains("`" + name + "`"));
                }
            }
        }
        CHECK.holds("how tests are run is told", page.contains(".ci/run"));
    }
}
