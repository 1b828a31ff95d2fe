import java.io.IOException;
import java.lang.reflect.InvocationTargetException;
import java.lang.reflect.Method;
import java.lang.reflect.Modifier;
import java.nio.file.Files;
import java.nio.file.Path;
import java.util.List;
import java.util.regex.Matcher;
import java.util.regex.Pattern;
import java.util.stream.Stream;

/** README.md keeps its word: its calls answer as it says, and it names each call and each test. Run from the project's folder. */
public final class ReadmeTest extends Calls {
    /** A call that stands alone on its line, with what it answers behind it. */
    private static final Pattern CALL = Pattern.compile("x\\.(\\w+)\\(([-0-9, ]*)\\);\\s*// (-?\\d+)\\b.*");
    /** The loop that feeds a text byte by byte. */
    private static final Pattern FED = Pattern.compile("for \\(char sign : \"(.*)\"\\.toCharArray\\(\\)\\) \\{");
    private static final List<String> BESIDE = List.of("SleeveDarker x = new SleeveDarker();", "x.feed(1, sign);", "}");

    private static void callsAnswerAsTold(List<String> lines) throws IllegalAccessException, InvocationTargetException {
        SleeveDarker x = new SleeveDarker();
        boolean inside = false;
        int calls = 0;
        for (String line : lines) {
            String bare = line.strip();
            Matcher call = CALL.matcher(bare);
            Matcher fed = FED.matcher(bare);
            if (bare.startsWith("```")) {
                inside = bare.equals("```java");
            } else if (inside && fed.matches()) {
                feed(x, fed.group(1));
            } else if (inside && call.matches()) {
                due(bare, answer(x, call.group(1), call.group(2)), Integer.parseInt(call.group(3)));
                calls++;
            } else if (inside) {
                due("a line that is not tested: " + bare, BESIDE.contains(bare) ? 0 : 1, 0);
            }
        }
        due("some calls stand there", calls > 20 ? 1 : 0, 1);
    }

    private static int answer(SleeveDarker x, String name, String numbers)
            throws IllegalAccessException, InvocationTargetException {
        Object[] given = Stream.of(numbers.split(",")).map(String::strip).filter(n -> !n.isEmpty())
                .map(Integer::valueOf).toArray();
        for (Method method : SleeveDarker.class.getDeclaredMethods()) {
            if (method.getName().equals(name) && method.getParameterCount() == given.length) {
                return (int) method.invoke(x, given);
            }
        }
        due("there is a call " + name + " of " + given.length + " numbers", 0, 1);
        return 0;
    }

    private static void namesAll(String readme) throws IOException {
        for (Method method : SleeveDarker.class.getDeclaredMethods()) {
            if (Modifier.isPublic(method.getModifiers())) {
                due("README.md names `" + method.getName() + "`", readme.contains("`" + method.getName() + "`") ? 1 : 0, 1);
            }
        }
        try (Stream<Path> tests = Files.list(Path.of("src/test/java"))) {
            for (Path test : tests.sorted().toList()) {
                String name = test.getFileName().toString().replace(".java", "");
                due("README.md names `" + name + "`", readme.contains("`" + name + "`") ? 1 : 0, 1);
            }
        }
    }

    public static void main(String[] args) throws IOException, IllegalAccessException, InvocationTargetException {
        String readme = Files.readString(Path.of("README.md"));
        callsAnswerAsTold(readme.lines().toList());
        namesAll(readme);
        end();
    }
}
