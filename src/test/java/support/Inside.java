import java.lang.reflect.Array;
import java.lang.reflect.Field;

/** Looks at what no call tells, and spoils what no call can spoil: a path goes by names and indices, "nights.0.sold". */
final class Inside {
    private Inside() {
    }

    static String peek(Object target, String path) {
        try {
            return String.valueOf(get(owner(target, path), last(path)));
        } catch (ReflectiveOperationException e) {
            throw new IllegalArgumentException(path, e);
        }
    }

    /** Answers what was there before. */
    static String put(Object target, String path, String word) {
        try {
            Object owner = owner(target, path);
            Object before = get(owner, last(path));
            set(owner, last(path), word);
            return String.valueOf(before);
        } catch (ReflectiveOperationException e) {
            throw new IllegalArgumentException(path, e);
        }
    }

    static Object value(String word, Class<?> type) {
        if (type == boolean.class) {
            return Boolean.valueOf(word);
        }
        if (type == long.class) {
            return Long.valueOf(word);
        }
        return type == char.class ? (Object) word.charAt(1) : (Object) Integer.valueOf(word);
    }

    private static Object owner(Object target, String path) throws ReflectiveOperationException {
        Object owner = target;
        String[] names = path.split("\\.");
        for (int i = 0; i < names.length - 1; i++) {
            owner = get(owner, names[i]);
        }
        return owner;
    }

    private static String last(String path) {
        return path.substring(path.lastIndexOf('.') + 1);
    }

    private static Object get(Object owner, String name) throws ReflectiveOperationException {
        return owner.getClass().isArray() ? Array.get(owner, Integer.parseInt(name)) : field(owner, name).get(owner);
    }

    private static void set(Object owner, String name, String word) throws ReflectiveOperationException {
        if (owner.getClass().isArray()) {
            Array.set(owner, Integer.parseInt(name), value(word, owner.getClass().getComponentType()));
        } else {
            field(owner, name).set(owner, value(word, field(owner, name).getType()));
        }
    }

    private static Field field(Object owner, String name) throws ReflectiveOperationException {
        Field field = owner.getClass().getDeclaredField(name);
        field.setAccessible(true);
        return field;
    }
}
