import java.lang.reflect.InvocationTargetException;
import java.lang.reflect.Method;

/** Runs calls that are written as text, "hold(0, 0, 2) = 80", and counts the answers that are not due. */
final class Script {
    private static int wrong;

    private final String name;
    private final Object target;

    Script(String name, Object target) {
        this.name = name;
        this.target = target;
    }

    /** Runs lines of "call = answer; call = answer" on a new house; what follows a # is a comment. */
    static void run(String name, String lines) {
        Script script = new Script(name, new Seatrush());
        for (String line : lines.split("\n")) {
            String calls = line.replaceAll("#.*", "");
            for (String step : calls.split(";")) {
                if (!step.isBlank()) {
                    script.step(step);
                }
            }
        }
    }

    static void end() {
        System.out.println(wrong == 0 ? "all answers are as due" : wrong + " answers are not as due");
        if (wrong != 0) {
            System.exit(1);
        }
    }

    private void step(String step) {
        String[] sides = step.split(" = ");
        if (sides.length != 2) {
            throw new IllegalArgumentException("not a step: " + step);
        }
        due(sides[0].trim(), sides[1].trim());
    }

    void due(String call, String want) {
        String got = answer(call);
        if (!got.equals(want)) {
            fault(name + ": " + call + " answered " + got + ", due is " + want);
        }
    }

    static void fault(String text) {
        wrong++;
        System.out.println(text);
    }

    /** The answer as text; an exception answers "throws." and the name of its very class. */
    String answer(String call) {
        int open = call.indexOf('(');
        Method method = method(call.substring(0, open));
        String inside = call.substring(open + 1, call.lastIndexOf(')')).trim();
        String[] words = inside.isEmpty() ? new String[0] : inside.split(",");
        Class<?>[] types = method.getParameterTypes();
        if (words.length != types.length) {
            throw new IllegalArgumentException("other arguments are due: " + call);
        }
        Object[] arguments = new Object[words.length];
        for (int i = 0; i < words.length; i++) {
            arguments[i] = argument(words[i].trim(), types[i]);
        }
        return invoke(method, arguments);
    }

    private Method method(String called) {
        for (Method method : target.getClass().getDeclaredMethods()) {
            if (method.getName().equals(called)) {
                return method;
            }
        }
        throw new IllegalArgumentException("no method " + called);
    }

    private static Object argument(String word, Class<?> type) {
        if (type == boolean.class) {
            return Boolean.valueOf(word);
        }
        return type == char.class ? (Object) word.charAt(1) : (Object) Integer.valueOf(word);
    }

    private String invoke(Method method, Object[] arguments) {
        try {
            return String.valueOf(method.invoke(target, arguments));
        } catch (InvocationTargetException e) {
            return "throws." + e.getCause().getClass().getSimpleName();
        } catch (IllegalAccessException e) {
            throw new IllegalStateException(e);
        }
    }
}
