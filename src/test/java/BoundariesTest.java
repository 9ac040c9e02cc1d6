import java.io.IOException;
import java.nio.file.Files;
import java.nio.file.Path;
import java.util.ArrayList;
import java.util.HashSet;
import java.util.List;
import java.util.Set;

/** Plays every boundary case by itself, and looks whether each sentence of the document has its own. */
final class BoundariesTest {
    private static final Path DOCUMENT = Path.of("../shared/DOC.md");
    private static final int PROMISES = 32;
    private static final Checks CHECKS = new Checks();

    public static void main(String[] args) throws IOException {
        List<Boundaries.Case> cases = allCases();
        Set<String> names = new HashSet<>();
        for (Boundaries.Case one : cases) {
            CHECKS.passes(one.whole(), () -> one.play().on(new BoothOtters()));
            CHECKS.holds("the name is of one case: " + one.whole(), names.add(one.whole()));
        }
        List<String> document = Files.readAllLines(DOCUMENT);
        for (Boundaries.Case one : cases) {
            CHECKS.holds("the document says so: " + one.whole(), says(document, one));
        }
        for (int promise = 1; promise <= PROMISES; promise++) {
            everySentence("Promise " + promise, document, cases);
        }
        System.out.println(cases.size() + " boundary cases");
        CHECKS.end();
    }

    private static List<Boundaries.Case> allCases() {
        List<Boundaries.Case> cases = new ArrayList<>();
        List<Boundaries> groups = List.of(new RegisterBoundaries(), new MultiplyingBoundaries(),
                new ProgramBoundaries(), new UndoBoundaries(), new DigitBoundaries(), new ProductBoundaries());
        for (Boundaries group : groups) {
            group.addAll();
            cases.addAll(group.cases());
        }
        return cases;
    }

    private static boolean says(List<String> document, Boundaries.Case one) {
        for (String line : section(document, one.section())) {
            if (line.contains(one.sentence())) {
                return true;
            }
        }
        return false;
    }

    /** Each range of a parameter and each exception of the promise is named by a case. */
    private static void everySentence(String section, List<String> document, List<Boundaries.Case> cases) {
        boolean any = false;
        for (Boundaries.Case one : cases) {
            any |= one.section().equals(section);
        }
        CHECKS.holds(section + " has a case", any);
        for (String line : section(document, section)) {
            if (line.startsWith("- `") || line.startsWith("Throws `")) {
                CHECKS.holds(section + " has a case of: " + line, isNamed(section, line, cases));
            }
        }
    }

    private static boolean isNamed(String section, String line, List<Boundaries.Case> cases) {
        for (Boundaries.Case one : cases) {
            if (one.section().equals(section) && line.contains(one.sentence())) {
                return true;
            }
        }
        return false;
    }

    /** The lines below the heading that begins so. */
    private static List<String> section(List<String> document, String heading) {
        List<String> lines = new ArrayList<>();
        boolean inside = false;
        for (String line : document) {
            if (line.startsWith("## ")) {
                inside = line.equals("## " + heading) || line.startsWith("## " + heading + ":");
            } else if (inside) {
                lines.add(line);
            }
        }
        return lines;
    }
}
