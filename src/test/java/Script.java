import java.lang.reflect.InvocationTargetException;
import java.lang.reflect.Method;

/**
 * Plays written runs of calls on new objects. A row is one of
 * <pre>
 *   call arguments = answer
 *   call arguments ! ExceptionName       it throws, and the object is as before
 *   call arguments !+ ExceptionName      it throws, but the ENTRY stays in the LOG
 *   call arguments                       it throws nothing
 * </pre>
 * A call that only reads, or that answers OTHER, must leave the object as before, too.
 */
final class Script {
    // What an object answers behind so many calls is free.
    private static final int MOST_CALLS = 512;

    private int wrong = 0;
    private int rows = 0;

    void run(String title, String text) {
        ZnodeService service = new ZnodeService();
        int calls = 0;
        for (String line : text.split("\n")) {
            String row = line.trim();
            if (!row.isEmpty()) {
                check(title, service, row);
                calls++;
            }
        }
        if (calls > MOST_CALLS) {
            throw new AssertionError("too many calls: " + title);
        }
    }

    /**
     * Plays the call with numbers in the place of its '#', each on a new object: the least and the most throw
     * nothing behind the setup, and numbers beyond them are out of range, with the setup and without any.
     */
    void range(String title, String setup, String call, int least, int most) {
        for (int edge : new int[] {least, most}) {
            run(title, setup + "\n" + call.replace("#", "" + edge));
        }
        for (int beyond : new int[] {least - 1, most + 1, Integer.MIN_VALUE, Integer.MAX_VALUE}) {
            if (beyond < least || beyond > most) {
                String refused = call.replace("#", "" + beyond) + " ! IllegalArgumentException";
                run(title, setup + "\n" + refused);
                run(title + ", before any other test", refused);
            }
        }
    }

    /** Rows that SET the root by session 0, its VERSIONS being the numbers told. */
    static String sets(int first, int last) {
        StringBuilder text = new StringBuilder();
        for (int i = first; i <= last; i++) {
            text.append("set 0 0 -1 9 = ").append(i).append("\n");
        }
        return text.toString();
    }

    void end() {
        System.out.println(rows + " rows, " + wrong + " wrong");
        if (wrong != 0) {
            System.exit(1);
        }
    }

    private void check(String title, ZnodeService service, String row) {
        rows++;
        String[] parts = row.split(" (?=[=!])|(?<=[=!+]) ");
        String[] words = parts[0].split(" ");
        String before = Snapshot.of(service);
        String got = answer(service, words);
        boolean changed = !before.equals(Snapshot.of(service));
        boolean threw = got.endsWith("Exception");
        if (parts.length == 1 ? threw : !got.equals(parts[2])) {
            fault(title, row, "it answered " + got);
        } else if (parts.length > 1 && !parts[1].equals("=") && changed != parts[1].equals("!+")) {
            fault(title, row, changed ? "it changed the object" : "it left nothing behind");
        } else if (changed && (isReading(words) || isOther(words, got))) {
            fault(title, row, "it changed the object");
        }
    }

    private void fault(String title, String row, String what) {
        wrong++;
        System.out.println(title + ": " + row + ", but " + what);
    }

    private static boolean isReading(String[] words) {
        switch (words[0]) {
            case "state": case "count": case "fact":
                return true;
            case "get": case "exists": case "children":
                return words[3].equals("false");
            default:
                return false;
        }
    }

    private static boolean isOther(String[] words, String got) {
        return (words[0].equals("set") || words[0].equals("delete")) && got.equals("" + ZnodeService.OTHER);
    }

    static String answer(ZnodeService service, String[] words) {
        Method method = method(words[0]);
        Class<?>[] types = method.getParameterTypes();
        if (types.length != words.length - 1) {
            throw new AssertionError("wrong row: " + String.join(" ", words));
        }
        Object[] arguments = new Object[types.length];
        for (int i = 0; i < types.length; i++) {
            arguments[i] = argument(types[i], words[i + 1]);
        }
        try {
            return String.valueOf(method.invoke(service, arguments));
        } catch (InvocationTargetException e) {
            return e.getCause().getClass().getSimpleName();
        } catch (IllegalAccessException e) {
            throw new AssertionError(e);
        }
    }

    private static Object argument(Class<?> type, String word) {
        if (type != boolean.class) {
            return Integer.valueOf(word);
        }
        if (!word.equals("true") && !word.equals("false")) {
            throw new AssertionError("neither true nor false: " + word);
        }
        return Boolean.valueOf(word);
    }

    private static Method method(String name) {
        for (Method method : ZnodeService.class.getDeclaredMethods()) {
            if (method.getName().equals(name)) {
                return method;
            }
        }
        throw new AssertionError("no such call: " + name);
    }
}
