import java.io.IOException;
import java.lang.reflect.Field;
import java.lang.reflect.Method;
import java.lang.reflect.Modifier;
import java.nio.file.Files;
import java.nio.file.Path;
import java.util.HashSet;
import java.util.Set;

/** Some of the rules of LANGUAGE.md that a landing could break unseen. */
final class LanguageTest {
    private static final String SOURCE = "src/main/java/BoothOtters.java";
    private static final String[] NEVER = {
        "import ", "package ", "->", "::", "catch", "finally", "try ", "synchronized", "assert", "static {",
        "goto", "float ", "double ", "record ", "var ", ".equals(", "hashCode", "toString", "System.", "Exact("
    };
    private static final Checks CHECKS = new Checks();

    public static void main(String[] args) throws IOException {
        String source = Files.readString(Path.of(SOURCE));
        for (String word : NEVER) {
            CHECKS.holds("the class does without \"" + word + "\"", !codeOf(source).contains(word));
        }
        CHECKS.holds("all signs are plain", source.chars().allMatch(sign -> sign == '\n' || sign >= 32 && sign < 127));
        Set<String> face = new HashSet<>();
        for (Method method : BoothOtters.class.getMethods()) {
            face.add(method.getName());
        }
        oneClass(BoothOtters.class, face);
        Class<?>[] inside = BoothOtters.class.getDeclaredClasses();
        CHECKS.holds("some twelve classes at most", inside.length < 12);
        for (Class<?> own : inside) {
            CHECKS.holds(own + " is private and static",
                    Modifier.isPrivate(own.getModifiers()) && Modifier.isStatic(own.getModifiers()));
            oneClass(own, face);
        }
        CHECKS.end();
    }

    private static void oneClass(Class<?> own, Set<String> face) {
        int fields = 0;
        for (Field field : own.getDeclaredFields()) {
            if (Modifier.isStatic(field.getModifiers())) {
                CHECKS.holds("the static " + field + " is final", Modifier.isFinal(field.getModifiers()));
            } else {
                fields++;
            }
        }
        CHECKS.holds(own + " has some twenty fields at most", fields <= 20);
        for (Method method : own.getDeclaredMethods()) {
            CHECKS.holds(method + " has seven parameters at most", method.getParameterCount() <= 7);
            CHECKS.holds(method + " bears no name of the face",
                    own == BoothOtters.class && Modifier.isPublic(method.getModifiers())
                            || !face.contains(method.getName()));
        }
    }

    /** The source without its comments and texts. */
    private static String codeOf(String source) {
        return source.replaceAll("(?s)/\\*.*?\\*/", "").replaceAll("//[^\n]*", "")
                .replaceAll("\"[^\"\n]*\"", "\"\"");
    }
}
