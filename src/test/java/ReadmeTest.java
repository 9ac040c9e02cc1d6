import java.io.IOException;
import java.lang.reflect.InvocationTargetException;
import java.lang.reflect.Method;
import java.lang.reflect.Modifier;
import java.nio.file.Files;
import java.nio.file.Path;
import java.util.List;
import java.util.regex.Matcher;
import java.util.regex.Pattern;
import java.util.stream.Stream;

/** README.md tells what is so: its calls answer as their comments say, its tables leave nothing out. */
final class ReadmeTest {
    private static final Path README = Path.of("README.md");
    private static final Path TESTS = Path.of("src/test/java");
    private static final Pattern CALL = Pattern.compile("otters\\.(\\w+)\\((.*)\\); +// (throws \\w+|-?\\w+).*");
    private static final Pattern TYPING = Pattern.compile("for \\(char c : \"(.*)\"\\.toCharArray\\(\\)\\) \\{");
    private static final Checks CHECKS = new Checks();

    public static void main(String[] args) throws IOException, ReflectiveOperationException {
        List<String> lines = Files.readAllLines(README);
        List<String> example = lines.subList(lines.indexOf("```java") + 1, lines.lastIndexOf("```"));
        CHECKS.holds("the example has some thirty calls", play(example) >= 30);
        String text = String.join("\n", lines);
        for (Method method : BoothOtters.class.getDeclaredMethods()) {
            if (Modifier.isPublic(method.getModifiers())) {
                CHECKS.holds("README.md tells of " + method.getName(), text.contains("`" + method.getName() + "("));
            }
        }
        try (Stream<Path> files = Files.list(TESTS)) {
            files.map(file -> file.getFileName().toString()).filter(name -> name.endsWith("Test.java"))
                    .map(name -> name.replace(".java", ""))
                    .forEach(name -> CHECKS.holds("README.md tells of " + name, text.contains("| `" + name + "` |")));
        }
        CHECKS.end();
    }

    private static int play(List<String> example) throws ReflectiveOperationException {
        BoothOtters otters = new BoothOtters();
        int calls = 0;
        for (String line : example) {
            Matcher call = CALL.matcher(line);
            Matcher typing = TYPING.matcher(line);
            if (call.matches()) {
                String got = answer(otters, call.group(1), call.group(2));
                CHECKS.holds(line + " (answered " + got + ")", got.equals(call.group(3)));
                calls++;
            } else if (typing.matches()) {
                Checks.type(otters, typing.group(1));
            } else {
                CHECKS.holds("a call in README.md has its answer: " + line,
                        !line.contains("otters.") || line.equals("    otters.type(c);"));
            }
        }
        return calls;
    }

    private static String answer(BoothOtters otters, String name, String given) throws ReflectiveOperationException {
        String[] words = given.isEmpty() ? new String[0] : given.split(", ");
        Class<?>[] types = new Class<?>[words.length];
        Object[] values = new Object[words.length];
        for (int at = 0; at < words.length; at++) {
            types[at] = int.class;
            values[at] = number(words[at]);
        }
        try {
            return String.valueOf(BoothOtters.class.getMethod(name, types).invoke(otters, values));
        } catch (InvocationTargetException e) {
            return "throws " + e.getCause().getClass().getSimpleName();
        }
    }

    private static int number(String word) throws ReflectiveOperationException {
        String constant = word.replace("BoothOtters.", "");
        return constant.equals(word) ? Integer.parseInt(word) : BoothOtters.class.getField(constant).getInt(null);
    }
}
