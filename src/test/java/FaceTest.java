import java.lang.reflect.Constructor;
import java.lang.reflect.Field;
import java.lang.reflect.Method;
import java.lang.reflect.Modifier;
import java.util.Arrays;
import java.util.Set;
import java.util.TreeSet;

/** The public face: all that the document shows, and nothing else that is not private. */
public final class FaceTest {
    private static final String[] METHODS = {
        "int cause(int)", "int lay(int)", "int wipe()", "int point(long, long)", "int span(int, int)",
        "int wide(int, int, int)", "int share(long, long)", "int pair(int, int)", "int row(int, int)",
        "int shelf(boolean, int)", "int set(int, int, int)", "int at(int, int)", "int kind(int)", "int parts(int)",
        "long part(int, int)", "long weight(int, boolean)", "int equal(int, int)", "int hash(int)",
        "int order(int, int)", "int ranked(int)", "int first(int)", "int family(int, int, int, int)",
        "int tag(int, int)", "int tagged(int, int)", "int constant(int, int)", "int named(int, int)", "int drop(int)",
        "int reorder(int)", "int seed(int)", "int told(int, int)", "int placed(int, int)", "int put(int, int)",
        "int get(int)", "int count(int)",
    };
    private static final Check check = new Check();

    public static void main(String[] args) {
        Set<String> want = new TreeSet<>(Arrays.asList(METHODS));
        Set<String> names = new TreeSet<>();
        Set<String> found = new TreeSet<>();
        for (Method method : KindRows.class.getDeclaredMethods()) {
            if (!Modifier.isPrivate(method.getModifiers())) {
                names.add(method.getName());
                found.add(told(method));
                check.due(method.getName() + " is public alone", method.getModifiers(), Modifier.PUBLIC);
            }
        }
        check.holds("methods " + found, found.equals(want));
        for (Method method : KindRows.class.getDeclaredMethods()) {
            check.holds(method.getName() + " is private, and has a name of the face",
                !Modifier.isPrivate(method.getModifiers()) || !names.contains(method.getName()));
        }
        constructors();
        fields();
        check.due("final", KindRows.class.getModifiers(), Modifier.PUBLIC | Modifier.FINAL);
        check.end("FaceTest");
    }

    private static String told(Method method) {
        StringBuilder types = new StringBuilder();
        for (Class<?> type : method.getParameterTypes()) {
            types.append(types.length() == 0 ? "" : ", ").append(type.getName());
        }
        return method.getReturnType().getName() + " " + method.getName() + "(" + types + ")";
    }

    private static void constructors() {
        Constructor<?>[] all = KindRows.class.getDeclaredConstructors();
        check.due("constructors", all.length, 1);
        check.due("constructor's modifiers", all[0].getModifiers(), Modifier.PUBLIC);
        check.due("constructor's parameters", all[0].getParameterCount(), 0);
    }

    private static void fields() {
        Set<String> found = new TreeSet<>();
        for (Field field : KindRows.class.getDeclaredFields()) {
            if (!Modifier.isPrivate(field.getModifiers())) {
                found.add(field.getName());
                check.due(field.getName(), field.getModifiers(), Modifier.PUBLIC | Modifier.STATIC | Modifier.FINAL);
            }
        }
        check.holds("constants " + found, found.equals(Set.of("NONE", "BAD", "FULL", "FAILED")));
        check.due("NONE", KindRows.NONE, -1);
        check.due("BAD", KindRows.BAD, -2);
        check.due("FULL", KindRows.FULL, -3);
        check.due("FAILED", KindRows.FAILED, -4);
    }
}
