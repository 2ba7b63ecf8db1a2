import java.io.IOException;
import java.lang.reflect.Method;
import java.nio.file.Files;
import java.nio.file.Path;
import java.util.List;
import java.util.regex.Matcher;
import java.util.regex.Pattern;
import java.util.stream.Stream;

/** README.md holds: each row of its example answers what stands behind it, each call and test is named. */
public final class ReadmeTest {
    private static final Pattern CALL = Pattern.compile("x\\.(\\w+)\\(([^)]*)\\); +// (-?\\d+)(:.*)?");
    private static final int FEWEST_ROWS = 30;

    private static int wrong = 0;

    private static void check(boolean holds, String what) {
        if (holds) return;
        wrong++;
        System.out.println("README.md: " + what);
    }

    public static void main(String[] args) throws Exception {
        String text = Files.readString(Path.of("README.md"));
        int rows = example(text);
        namesCalls(text);
        namesTests(text);
        System.out.println("ReadmeTest: " + rows + " rows, " + wrong + " wrong");
        if (wrong != 0) System.exit(1);
    }

    private static int example(String text) throws ReflectiveOperationException {
        MissedPoints x = new MissedPoints();
        int rows = 0;
        for (String row : text.lines().filter(line -> line.startsWith("x.")).toList()) {
            Matcher call = CALL.matcher(row);
            if (!call.matches()) {
                check(false, "no answer in '" + row + "'");
                continue;
            }
            int got = answer(x, call.group(1), call.group(2));
            check(got == Integer.parseInt(call.group(3)), "'" + row + "' answered " + got);
            rows++;
        }
        check(rows >= FEWEST_ROWS, "an example of " + rows + " rows only");
        return rows;
    }

    private static int answer(MissedPoints x, String name, String numbers) throws ReflectiveOperationException {
        Object[] args = Stream.of(numbers.split(", *")).filter(n -> !n.isEmpty()).map(Integer::decode).toArray();
        Class<?>[] types = Stream.of(args).map(a -> int.class).toArray(Class<?>[]::new);
        return (int) MissedPoints.class.getMethod(name, types).invoke(x, args);
    }

    private static void namesCalls(String text) {
        for (Method call : MissedPoints.class.getMethods()) {
            if (call.getDeclaringClass() != MissedPoints.class) continue;
            Matcher named = Pattern.compile("`" + call.getName() + "\\(([^)]*)\\)`").matcher(text);
            boolean found = named.find();
            check(found, call.getName() + " isn't named");
            if (!found) continue;
            int numbers = named.group(1).isEmpty() ? 0 : named.group(1).split(",").length;
            check(numbers == call.getParameterCount(), call.getName() + " takes " + call.getParameterCount());
        }
    }

    private static void namesTests(String text) throws IOException {
        try (Stream<Path> files = Files.list(Path.of("src/test/java"))) {
            List<String> names = files.map(f -> f.getFileName().toString().replace(".java", "")).toList();
            for (String name : names) check(text.contains("`" + name + "`"), name + " isn't named");
        }
        check(text.contains(".ci/run"), "how the tests are run isn't told");
    }
}
