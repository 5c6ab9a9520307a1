import java.lang.reflect.Constructor;
import java.lang.reflect.Field;
import java.lang.reflect.Method;
import java.lang.reflect.Modifier;
import java.util.Arrays;
import java.util.Set;
import java.util.TreeSet;
import java.util.stream.Collectors;

/** The public face, as the document gives it, and nothing beside it. */
public final class FaceTest {
    private static final String ARGUMENT = " throws IllegalArgumentException";
    private static final String STATE = " throws IllegalStateException";
    private static final String BOTH = " throws IllegalArgumentException, IllegalStateException";

    private static final String[] METHODS = {
        "int addWord(long, int)" + BOTH,
        "int dropWord(long)" + ARGUMENT,
        "int addName(long)" + BOTH,
        "int dropName(long)" + ARGUMENT,
        "int setStick(int, int)" + ARGUMENT,
        "int set(int, int)" + ARGUMENT,
        "long correct(long)" + ARGUMENT,
        "long takeBack()" + STATE,
        "int allow(long, long)" + ARGUMENT,
        "int word(long, int)" + ARGUMENT,
        "long listed(boolean, int)" + ARGUMENT,
        "long pair(int, int)" + ARGUMENT,
        "long logged(int, int)" + ARGUMENT,
        "int key(int, int)" + ARGUMENT,
        "int whole(int)" + ARGUMENT,
        "int distance(long, long)" + ARGUMENT,
        "int caseOf(long)" + ARGUMENT,
        "long suggestion(long, int)" + ARGUMENT,
        "int reason(long, long)" + ARGUMENT,
        "int risk(long)" + ARGUMENT,
        "long riskiest()",
        "int bestDropping(long, long)" + ARGUMENT,
        "int type(int)" + BOTH,
        "int clearCommands()",
        "int runCommands()",
        "int undo()" + STATE,
        "long digest()",
    };

    public static void main(String[] args) {
        Set<String> due = new TreeSet<>(Arrays.asList(METHODS));
        Set<String> names = Arrays.stream(METHODS).map(m -> m.replaceAll("^\\w+ |\\(.*", ""))
                .collect(Collectors.toSet());
        Set<String> got = new TreeSet<>();
        for (Method method : StuckKeys.class.getDeclaredMethods()) {
            if (!Modifier.isPrivate(method.getModifiers())) {
                got.add(signature(method));
            } else {
                Check.due("private " + method.getName() + " has a public name",
                        names.contains(method.getName()) ? 1 : 0, 0);
            }
        }
        due.forEach(m -> Check.due(m + " is there", got.contains(m) ? 1 : 0, 1));
        got.forEach(m -> Check.due(m + " is in the document", due.contains(m) ? 1 : 0, 1));
        for (Field field : StuckKeys.class.getDeclaredFields()) {
            boolean open = !Modifier.isPrivate(field.getModifiers());
            Check.due("field " + field.getName(), open ? 1 : 0, field.getName().equals("NONE") ? 1 : 0);
        }
        Constructor<?>[] constructors = StuckKeys.class.getDeclaredConstructors();
        Check.due("constructors", constructors.length, 1);
        Check.due("public ones", StuckKeys.class.getConstructors().length, 1);
        Check.due("final", Modifier.isFinal(StuckKeys.class.getModifiers()) ? 1 : 0, 1);
        Check.end("FaceTest");
    }

    private static String signature(Method method) {
        String exceptions = Arrays.stream(method.getExceptionTypes()).map(Class::getSimpleName)
                .collect(Collectors.joining(", "));
        return method.getReturnType() + " " + method.getName() + "("
                + Arrays.stream(method.getParameterTypes()).map(Class::toString).collect(Collectors.joining(", "))
                + ")" + (exceptions.isEmpty() ? "" : " throws " + exceptions);
    }
}
