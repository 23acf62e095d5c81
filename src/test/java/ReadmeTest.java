import java.io.IOException;
import java.lang.reflect.Method;
import java.lang.reflect.Modifier;
import java.nio.file.Files;
import java.nio.file.Path;
import java.util.List;
import java.util.regex.Matcher;
import java.util.regex.Pattern;
import java.util.stream.Stream;

/** What README.md tells: each line of its examples answers as it says, and nothing is left out. */
public final class ReadmeTest {
    private static final Check check = new Check();
    private static final Pattern EXAMPLE = Pattern.compile("(?ms)^```java\n(.*?)^```$");
    private static final Pattern CALL = Pattern.compile("x\\.(\\w+)\\(([^)]*)\\); +// (-?\\d+)(?:: .*)?");
    private static final Pattern ANY_ROW = Pattern.compile("\\| (\\d+) [A-Z][^|]*\\|.*");

    public static void main(String[] args) throws IOException, ReflectiveOperationException {
        String readme = Files.readString(Path.of("README.md"));
        examples(readme);
        face(readme);
        kinds(readme);
        answers(readme);
        tests(readme);
        check.end();
    }

    private static void examples(String readme) throws ReflectiveOperationException {
        check.says("README.md: each call of an example answers what stands behind it");
        Matcher example = EXAMPLE.matcher(readme);
        int found = 0;
        while (example.find()) {
            found++;
            example(example.group(1).lines().toList());
        }
        check.holds("examples are found", found >= 3);
    }

    private static void example(List<String> lines) throws ReflectiveOperationException {
        check.due("an example begins with", lines.get(0).getBytes(), "SlicedModes x = new SlicedModes();".getBytes());
        SlicedModes x = new SlicedModes();
        for (String line : lines.subList(1, lines.size())) {
            Matcher call = CALL.matcher(line);
            check.holds("a call and its answer: " + line, call.matches());
            if (call.matches()) {
                check.due(line, answer(x, call.group(1), call.group(2).split(", ")), Integer.parseInt(call.group(3)));
            }
        }
    }

    private static int answer(SlicedModes x, String name, String[] told) throws ReflectiveOperationException {
        Method method = method(name);
        Class<?>[] types = method.getParameterTypes();
        Object[] given = new Object[types.length];
        for (int i = 0; i < given.length; i++) {
            long v = number(told[i]);
            given[i] = types[i] == long.class ? (Object) v : (Object) (int) v;
        }
        return (int) method.invoke(x, given);
    }

    private static long number(String told) {
        return told.startsWith("0x")
                ? Long.parseUnsignedLong(told.substring(2).replace("L", ""), 16) : Long.parseLong(told);
    }

    private static Method method(String name) {
        for (Method method : SlicedModes.class.getDeclaredMethods()) {
            if (method.getName().equals(name) && Modifier.isPublic(method.getModifiers())) {
                return method;
            }
        }
        throw new IllegalStateException("README.md calls " + name + ", which is none of the face");
    }

    private static void face(String readme) {
        check.says("README.md: every call of the face is told and stands in an example");
        for (Method method : SlicedModes.class.getDeclaredMethods()) {
            if (Modifier.isPublic(method.getModifiers())) {
                String name = method.getName();
                check.holds(name + " in the table of calls", readme.contains("| `" + name + "("));
                check.holds(name + " in an example", readme.contains("\nx." + name + "("));
            }
        }
    }

    private static void kinds(String readme) {
        check.says("README.md: the 4 rows, 16 KINDS and 3 SUMS are told, each in its place");
        List<String> numbers = readme.lines().map(ANY_ROW::matcher).filter(Matcher::matches)
                .map(row -> row.group(1)).toList();
        StringBuilder due = new StringBuilder();
        for (int most : new int[] {3, 16, 3}) {
            for (int i = due.length() == 0 ? 0 : 1; i <= most; i++) {
                due.append(i).append(' ');
            }
        }
        check.due("the numbers", (String.join(" ", numbers) + " ").getBytes(), due.toString().getBytes());
    }

    private static void answers(String readme) {
        check.says("README.md: what the answers below 0 mean, and an example of each");
        for (int answer : new int[] {-2, -3, -4, -6}) {
            check.holds(answer + " is told", readme.contains("\n| " + answer + " | "));
            check.holds(answer + " in an example", readme.contains("// " + answer + ":"));
        }
    }

    private static void tests(String readme) throws IOException {
        check.says("README.md: how to run the tests, and every one of them");
        check.holds(".ci/run", readme.contains("\n.ci/run\n") && Files.isExecutable(Path.of(".ci/run")));
        try (Stream<Path> files = Files.list(Path.of("src/test/java"))) {
            for (Path file : files.toList()) {
                String name = file.getFileName().toString().replace(".java", "");
                check.holds(name + " is told of", readme.contains("`" + name + "`"));
            }
        }
    }
}
