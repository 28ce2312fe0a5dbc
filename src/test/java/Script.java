import java.lang.reflect.InvocationTargetException;
import java.lang.reflect.Method;

/**
 * Plays written runs of calls on new objects. A row is "call arguments = answer",
 * "call arguments ! ExceptionName", or a call alone that must throw nothing.
 */
final class Script {
    private int wrong = 0;
    private int rows = 0;

    void run(String title, String text) {
        ZnodeService service = new ZnodeService();
        for (String line : text.split("\n")) {
            String row = line.trim();
            if (!row.isEmpty()) {
                check(title, service, row);
            }
        }
    }

    void end() {
        System.out.println(rows + " rows, " + wrong + " wrong");
        if (wrong != 0) {
            System.exit(1);
        }
    }

    private void check(String title, ZnodeService service, String row) {
        rows++;
        String[] halves = row.split(" [=!] ");
        String got = answer(service, halves[0].split(" "));
        boolean right;
        if (halves.length == 1) {
            right = !got.endsWith("Exception");
        } else {
            right = got.equals(halves[1]);
        }
        if (!right) {
            wrong++;
            System.out.println(title + ": " + row + ", but it answered " + got);
        }
    }

    static String answer(ZnodeService service, String[] words) {
        Method method = method(words[0]);
        Class<?>[] types = method.getParameterTypes();
        if (types.length != words.length - 1) {
            throw new AssertionError("wrong row: " + String.join(" ", words));
        }
        Object[] arguments = new Object[types.length];
        for (int i = 0; i < types.length; i++) {
            arguments[i] = argument(types[i], words[i + 1]);
        }
        try {
            return String.valueOf(method.invoke(service, arguments));
        } catch (InvocationTargetException e) {
            return e.getCause().getClass().getSimpleName();
        } catch (IllegalAccessException e) {
            throw new AssertionError(e);
        }
    }

    private static Object argument(Class<?> type, String word) {
        if (type != boolean.class) {
            return Integer.valueOf(word);
        }
        if (!word.equals("true") && !word.equals("false")) {
            throw new AssertionError("neither true nor false: " + word);
        }
        return Boolean.valueOf(word);
    }

    private static Method method(String name) {
        for (Method method : ZnodeService.class.getDeclaredMethods()) {
            if (method.getName().equals(name)) {
                return method;
            }
        }
        throw new AssertionError("no such call: " + name);
    }
}
