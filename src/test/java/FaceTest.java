import java.lang.reflect.Constructor;
import java.lang.reflect.Field;
import java.lang.reflect.Member;
import java.lang.reflect.Method;
import java.lang.reflect.Modifier;
import java.util.Set;
import java.util.TreeSet;

/** The face is the document's, to the letter, and nothing more. */
final class FaceTest {
    private static final String INDEX = "IndexOutOfBoundsException";
    private static final String ARGUMENT = "IllegalArgumentException";
    private static final String STATE = "IllegalStateException";

    public static void main(String[] args) {
        Checks checks = new Checks();
        checks.same("NONE", BoothOtters.NONE, -1);
        checks.same("PAIRS", BoothOtters.PAIRS, 0);
        checks.same("TRIPLES", BoothOtters.TRIPLES, 1);
        checks.same("SPARSE", BoothOtters.SPARSE, 2);
        Set<String> due = dueFace();
        Set<String> got = face();
        for (String line : due) {
            checks.holds("the face has: " + line, got.contains(line));
        }
        for (String line : got) {
            checks.holds("the document has: " + line, due.contains(line));
        }
        checks.holds("the class is public and final",
                Modifier.isPublic(BoothOtters.class.getModifiers())
                        && Modifier.isFinal(BoothOtters.class.getModifiers()));
        checks.end();
    }

    private static Set<String> dueFace() {
        Set<String> due = new TreeSet<>();
        due.add("static int NONE");
        due.add("static int PAIRS");
        due.add("static int TRIPLES");
        due.add("static int SPARSE");
        due.add("BoothOtters()");
        add(due, "int setWidth(int)", ARGUMENT);
        add(due, "int set(int,int)", INDEX, ARGUMENT);
        add(due, "int begin(int,int,int)", INDEX, ARGUMENT, STATE);
        add(due, "int step()", STATE);
        add(due, "int finish()", STATE);
        add(due, "int store(int)", INDEX, STATE);
        add(due, "int type(char)", STATE);
        add(due, "int clearProgram()");
        add(due, "int programError()");
        add(due, "int firstOverflow()", STATE);
        add(due, "int carryOut()", STATE);
        add(due, "int undo()", STATE);
        add(due, "int takeSnapshot()");
        add(due, "int restoreSnapshot()", STATE);
        add(due, "int width()");
        add(due, "int valueOf(int)", INDEX);
        add(due, "int onesOf(int)", INDEX);
        add(due, "int digitAt(int,int,int)", INDEX, ARGUMENT, STATE);
        add(due, "int rowsOf(int,int)", INDEX, ARGUMENT, STATE);
        add(due, "int productByRows(int,int,int)", INDEX, ARGUMENT, STATE);
        add(due, "int productByBits(int,int)", INDEX);
        add(due, "boolean fits(int,int)", INDEX);
        add(due, "int stepsLeft()");
        add(due, "int highPart()", STATE);
        add(due, "int lowPart()", STATE);
        add(due, "int extraBit()", STATE);
        add(due, "int carries(int,int)", INDEX);
        add(due, "int longestRun(int,int)", INDEX);
        add(due, "int overflows()");
        add(due, "int stepsMade()");
        add(due, "int recordedStates()");
        return due;
    }

    private static void add(Set<String> lines, String head, String... thrown) {
        lines.add(thrown.length == 0 ? head : head + " throws " + String.join(",", thrown));
    }

    private static Set<String> face() {
        Set<String> lines = new TreeSet<>();
        for (Field field : BoothOtters.class.getDeclaredFields()) {
            if (shows(field)) {
                lines.add(staticWord(field) + field.getType().getSimpleName() + " " + field.getName());
            }
        }
        for (Constructor<?> constructor : BoothOtters.class.getDeclaredConstructors()) {
            if (shows(constructor)) {
                lines.add("BoothOtters(" + names(constructor.getParameterTypes()) + ")");
            }
        }
        for (Method method : BoothOtters.class.getDeclaredMethods()) {
            if (shows(method)) {
                add(lines, staticWord(method) + method.getReturnType().getSimpleName() + " " + method.getName()
                        + "(" + names(method.getParameterTypes()) + ")", thrownBy(method));
            }
        }
        return lines;
    }

    private static boolean shows(Member member) {
        return !Modifier.isPrivate(member.getModifiers()) && !member.isSynthetic();
    }

    private static String staticWord(Member member) {
        return Modifier.isStatic(member.getModifiers()) ? "static " : "";
    }

    private static String[] thrownBy(Method method) {
        Class<?>[] types = method.getExceptionTypes();
        return types.length == 0 ? new String[0] : names(types).split(",");
    }

    private static String names(Class<?>[] types) {
        StringBuilder names = new StringBuilder();
        for (Class<?> type : types) {
            names.append(names.length() == 0 ? "" : ",").append(type.getSimpleName());
        }
        return names.toString();
    }
}
