import java.io.IOException;
import java.lang.reflect.InvocationTargetException;
import java.lang.reflect.Method;
import java.lang.reflect.Modifier;
import java.nio.file.Files;
import java.nio.file.Path;
import java.util.Arrays;
import java.util.List;
import java.util.TreeSet;
import java.util.regex.Matcher;
import java.util.regex.Pattern;
import java.util.stream.Collectors;
import java.util.stream.Stream;

/** README.md: its example is run call by call, and its table has every test. */
public final class ReadmeTest {
    private static final Check CHECK = new Check("ReadmeTest");
    private static final String FIRST = "NearPicture x = new NearPicture();";
    private static final Pattern CALL = Pattern.compile("(int [a-z]+ = )?x\\.([a-z]+)\\(([^()]*)\\);( *// (.*))?");
    private static final Pattern ANSWER = Pattern.compile("answers (-?\\d+)\\b.*");
    private static final Pattern REFUSAL = Pattern.compile("throws (\\w+)\\b.*");

    private static final TreeSet<String> CALLED = new TreeSet<>();

    public static void main(String[] args) throws IOException, IllegalAccessException {
        String readme = Files.readString(Path.of("README.md"));
        runExample(example(readme));
        everyCallIsShown();
        everyTestIsNamed(readme);
        CHECK.holds("README.md says how the tests are run", readme.contains("\n.ci/run\n"));
        CHECK.finish();
    }

    private static List<String> example(String readme) {
        int from = readme.indexOf("```java\n") + "```java\n".length();
        return readme.substring(from, readme.indexOf("```", from)).lines()
            .filter(line -> !line.isBlank() && !line.startsWith("//")).collect(Collectors.toList());
    }

    private static void runExample(List<String> lines) throws IllegalAccessException {
        CHECK.holds("the example begins with a new object", lines.get(0).equals(FIRST));
        NearPicture x = new NearPicture();
        for (String line : lines.subList(1, lines.size())) {
            Matcher call = CALL.matcher(line);
            if (call.matches()) {
                runCall(x, line, call);
            } else {
                CHECK.holds("a call: " + line, false);
            }
        }
    }

    private static void runCall(NearPicture x, String line, Matcher call) throws IllegalAccessException {
        Object[] numbers = call.group(3).isEmpty() ? new Object[0]
            : Arrays.stream(call.group(3).split(", ")).map(text -> (Object) Long.decode(text).intValue()).toArray();
        Method method = Arrays.stream(NearPicture.class.getMethods())
            .filter(one -> one.getName().equals(call.group(2))).findFirst().orElseThrow();
        CALLED.add(method.getName());
        String got;
        try {
            Object answer = method.invoke(x, numbers);
            got = answer == null ? "nothing" : answer.toString();
        } catch (InvocationTargetException thrown) {
            got = thrown.getCause().getClass().getSimpleName();
        }
        CHECK.holds(line + " (it is " + got + ")", got.equals(due(call.group(5))));
        CHECK.holds(line + " keeps an answer that there is", call.group(1) == null || got.matches("-?\\d+"));
    }

    private static String due(String comment) {
        Matcher answer = ANSWER.matcher(comment == null ? "" : comment);
        Matcher refusal = REFUSAL.matcher(comment == null ? "" : comment);
        return answer.matches() ? answer.group(1) : refusal.matches() ? refusal.group(1) : "nothing";
    }

    private static void everyCallIsShown() {
        for (Method method : NearPicture.class.getDeclaredMethods()) {
            boolean isFace = Modifier.isPublic(method.getModifiers());
            CHECK.holds("the example shows " + method.getName(), !isFace || CALLED.contains(method.getName()));
        }
    }

    private static void everyTestIsNamed(String readme) throws IOException {
        try (Stream<Path> files = Files.list(Path.of("src/test/java"))) {
            for (Path file : files.collect(Collectors.toList())) {
                String name = file.getFileName().toString().replace(".java", "");
                CHECK.holds("README.md names " + name, readme.contains("`" + name + "`"));
            }
        }
    }
}
