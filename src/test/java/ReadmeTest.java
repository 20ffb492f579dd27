import java.io.IOException;
import java.lang.reflect.Method;
import java.lang.reflect.Modifier;
import java.nio.file.Files;
import java.nio.file.Path;
import java.util.Arrays;
import java.util.List;
import java.util.regex.Matcher;
import java.util.regex.Pattern;
import java.util.stream.Stream;

/** What README.md shows is what the class does, and it leaves out no call and no test. */
public final class ReadmeTest {
    private static final Pattern BEGIN = Pattern.compile("WhoseShip x = new WhoseShip\\(\\);");
    private static final Pattern TEXT = Pattern.compile("for \\(char c : \"([^\"]*)\"\\.toCharArray\\(\\)\\) \\{");
    private static final Pattern TYPED = Pattern.compile("    x\\.type\\(c\\);.*|\\}");
    private static final Pattern CALL = Pattern.compile("x\\.(\\w+)\\(([-0-9, ]*)\\); +// (-?\\d+):.*");
    private static int wrong = 0;
    private static int shown = 0;

    public static void main(String[] args) throws IOException, ReflectiveOperationException {
        String readme = Files.readString(Path.of("README.md"));
        runExamples(readme.lines().toList());
        must(shown > 0, "README.md shows calls and their answers");
        namesCalls(readme);
        namesTests(readme);
        System.out.println(wrong == 0 ? "README.md is true: " + shown + " answers" : wrong + " things are not so");
        if (wrong != 0) {
            System.exit(1);
        }
    }

    private static void must(boolean holds, String what) {
        if (!holds) {
            wrong++;
            System.out.println("not so: " + what);
        }
    }

    private static void runExamples(List<String> lines) throws ReflectiveOperationException {
        WhoseShip x = null;
        boolean inside = false;
        for (String line : lines) {
            if (line.startsWith("```")) {
                inside = line.equals("```java");
                x = null;
            } else if (inside && BEGIN.matcher(line).matches()) {
                x = new WhoseShip();
            } else if (inside && x != null) {
                runLine(x, line);
            } else {
                must(!inside, "an example begins with a new object: " + line);
            }
        }
    }

    private static void runLine(WhoseShip x, String line) throws ReflectiveOperationException {
        Matcher text = TEXT.matcher(line);
        Matcher call = CALL.matcher(line);
        if (text.matches()) {
            text.group(1).chars().forEach(x::type);
        } else if (call.matches()) {
            shown++;
            long got = answer(x, call.group(1), call.group(2));
            must(got == Long.parseLong(call.group(3)), line + " (it answers " + got + ")");
        } else {
            must(TYPED.matcher(line).matches(), "a line of an example that can be run: " + line);
        }
    }

    private static long answer(WhoseShip x, String name, String numbers) throws ReflectiveOperationException {
        Object[] given = Stream.of(numbers.split(",")).map(String::trim).filter(n -> !n.isEmpty())
            .map(Integer::valueOf).toArray();
        Class<?>[] types = new Class<?>[given.length];
        Arrays.fill(types, int.class);
        return ((Number) WhoseShip.class.getMethod(name, types).invoke(x, given)).longValue();
    }

    private static void namesCalls(String readme) {
        for (Method method : WhoseShip.class.getDeclaredMethods()) {
            if (Modifier.isPublic(method.getModifiers())) {
                must(readme.contains("`" + method.getName() + "`"), "README.md names " + method.getName());
            }
        }
    }

    private static void namesTests(String readme) throws IOException {
        must(readme.contains(".ci/run"), "README.md names .ci/run");
        try (Stream<Path> files = Files.list(Path.of("src/test/java"))) {
            for (Path file : files.toList()) {
                String name = file.getFileName().toString().replace(".java", "");
                must(readme.contains("`" + name + "`"), "README.md names " + name);
            }
        }
    }
}
