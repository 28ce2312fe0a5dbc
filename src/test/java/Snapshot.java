import java.lang.reflect.Array;
import java.lang.reflect.Field;
import java.lang.reflect.Modifier;
import java.util.Arrays;

/** All that an object holds, as one text, so that a call can be seen to change nothing. */
final class Snapshot {
    private Snapshot() { }

    static String of(Object object) {
        StringBuilder text = new StringBuilder();
        add(text, object, object == null ? Object.class : object.getClass());
        return text.toString();
    }

    private static void add(StringBuilder text, Object value, Class<?> declared) {
        if (value == null || declared.isPrimitive() || value instanceof String) {
            text.append(value).append(' ');
        } else if (value instanceof int[] numbers) {
            text.append(Arrays.toString(numbers));
        } else if (value.getClass().isArray()) {
            text.append('[');
            for (int i = 0; i < Array.getLength(value); i++) {
                add(text, Array.get(value, i), value.getClass().getComponentType());
            }
            text.append(']');
        } else {
            text.append('{');
            for (Field field : value.getClass().getDeclaredFields()) {
                if (!Modifier.isStatic(field.getModifiers())) {
                    add(text, read(field, value), field.getType());
                }
            }
            text.append('}');
        }
    }

    private static Object read(Field field, Object owner) {
        try {
            field.setAccessible(true);
            return field.get(owner);
        } catch (IllegalAccessException e) {
            throw new AssertionError(e);
        }
    }
}
