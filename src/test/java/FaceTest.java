import java.lang.reflect.Constructor;
import java.lang.reflect.Field;
import java.lang.reflect.Method;
import java.lang.reflect.Modifier;
import java.util.Arrays;
import java.util.Set;
import java.util.TreeSet;
import java.util.stream.Collectors;

/** The class shows the document's face and nothing else. */
public final class FaceTest {
    private static final String STATE = "IllegalArgumentException, IllegalStateException";
    private static final String MISSING = STATE + ", NoSuchElementException";
    private static final String[] FACE = {
        "int open(int, int, int) throws " + STATE,
        "int close(int) throws " + STATE,
        "int ping(int) throws " + STATE,
        "int move(int, int) throws " + STATE,
        "int create(int, int, int, int) throws " + MISSING
            + ", UnsupportedOperationException, IndexOutOfBoundsException",
        "int set(int, int, int, int) throws " + MISSING,
        "int delete(int, int, int) throws " + MISSING + ", UnsupportedOperationException",
        "int get(int, int, boolean) throws " + MISSING,
        "boolean exists(int, int, boolean) throws " + STATE,
        "int children(int, int, boolean) throws " + MISSING,
        "int fact(int, int, int) throws " + MISSING,
        "int event(int) throws " + MISSING,
        "int crash(int) throws " + STATE,
        "int restart(int) throws " + STATE,
        "int alone(int, boolean) throws IllegalArgumentException",
        "int elect() throws IllegalStateException",
        "int tick(int) throws IllegalArgumentException",
        "int state(int, int) throws IllegalArgumentException",
        "int count(int) throws IllegalArgumentException",
    };

    private static int wrong = 0;

    public static void main(String[] args) {
        same("methods", new TreeSet<>(Arrays.asList(FACE)), shownMethods());
        same("fields", new TreeSet<>(Set.of("OTHER")), shownFields());
        same("constant", -2, ZnodeService.OTHER);
        same("class", Modifier.PUBLIC | Modifier.FINAL, ZnodeService.class.getModifiers());
        Constructor<?>[] constructors = ZnodeService.class.getDeclaredConstructors();
        same("constructors", 1, constructors.length);
        same("constructor", Modifier.PUBLIC, constructors[0].getModifiers());
        same("constructor's parameters", 0, constructors[0].getParameterCount());
        noPrivateNamesake();
        System.out.println(wrong == 0 ? "the face is the document's" : wrong + " wrong");
        if (wrong != 0) {
            System.exit(1);
        }
    }

    private static void same(String what, Object due, Object got) {
        if (!due.equals(got)) {
            wrong++;
            System.out.println(what + ": due " + due + ", got " + got);
        }
    }

    private static Set<String> shownMethods() {
        Set<String> shown = new TreeSet<>();
        for (Method method : ZnodeService.class.getDeclaredMethods()) {
            if (method.getModifiers() == Modifier.PUBLIC) {
                shown.add(method.getReturnType() + " " + method.getName() + "("
                    + names(method.getParameterTypes()) + ") throws " + names(method.getExceptionTypes()));
            } else if (!Modifier.isPrivate(method.getModifiers())) {
                shown.add("neither public nor private: " + method);
            }
        }
        return shown;
    }

    private static String names(Class<?>[] types) {
        return Arrays.stream(types).map(Class::getSimpleName).collect(Collectors.joining(", "));
    }

    private static Set<String> shownFields() {
        Set<String> shown = new TreeSet<>();
        for (Field field : ZnodeService.class.getDeclaredFields()) {
            if (!Modifier.isPrivate(field.getModifiers())) {
                shown.add(field.getName());
            }
            if (Modifier.isStatic(field.getModifiers()) && !Modifier.isFinal(field.getModifiers())) {
                shown.add("static but not final: " + field);
            }
        }
        return shown;
    }

    private static void noPrivateNamesake() {
        Set<String> open = new TreeSet<>();
        for (Method method : ZnodeService.class.getMethods()) {
            open.add(method.getName());
        }
        for (Method method : ZnodeService.class.getDeclaredMethods()) {
            if (Modifier.isPrivate(method.getModifiers()) && open.contains(method.getName())) {
                wrong++;
                System.out.println("private, but named as a public one: " + method);
            }
        }
    }
}
