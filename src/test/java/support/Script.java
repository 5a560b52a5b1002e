import java.lang.reflect.InvocationTargetException;
import java.lang.reflect.Method;
import java.util.ArrayList;
import java.util.List;

/** Runs calls that are written as text, "hold(0, 0, 2) = 80", and counts the answers that are not due. */
final class Script {
    private static int wrong;

    private final String name;
    private final Object target;

    Script(String name, Object target) {
        this.name = name;
        this.target = target;
    }

    /** A call, and the answer that is due. */
    record Step(String call, String want) {
        boolean isThrown() {
            return want.startsWith("throws.");
        }
    }

    /**
     * Runs lines of "call = answer; call = answer" on a new house; what follows a # is a comment. Then runs them
     * again without the calls that throw: as these change nothing, the others answer the same.
     */
    static void run(String name, String lines) {
        List<Step> steps = steps(lines);
        faults(name, new Seatrush(), steps).forEach(Script::fault);
        List<Step> others = steps.stream().filter(step -> !step.isThrown()).toList();
        faults(name + ", without what throws", new Seatrush(), others).forEach(Script::fault);
    }

    static List<Step> steps(String lines) {
        List<Step> steps = new ArrayList<>();
        for (String line : lines.split("\n")) {
            for (String step : line.replaceAll("#.*", "").split(";")) {
                if (!step.isBlank()) {
                    steps.add(step(step));
                }
            }
        }
        return steps;
    }

    private static Step step(String text) {
        String[] sides = text.split(" = ");
        if (sides.length != 2) {
            throw new IllegalArgumentException("not a step: " + text);
        }
        return new Step(sides[0].trim(), sides[1].trim());
    }

    static List<String> faults(String name, Object target, List<Step> steps) {
        Script script = new Script(name, target);
        List<String> faults = new ArrayList<>();
        for (Step step : steps) {
            String got = script.answer(step.call);
            if (!got.equals(step.want)) {
                faults.add(name + ": " + step.call + " answered " + got + ", due is " + step.want);
            }
        }
        return faults;
    }

    static void end() {
        System.out.println(wrong == 0 ? "all answers are as due" : wrong + " answers are not as due");
        if (wrong != 0) {
            System.exit(1);
        }
    }

    static synchronized void fault(String text) {
        wrong++;
        System.out.println(text);
    }

    /** The answer as text; an exception answers "throws." and the name of its very class. */
    String answer(String call) {
        int open = call.indexOf('(');
        String called = call.substring(0, open);
        String inside = call.substring(open + 1, call.lastIndexOf(')')).trim();
        String[] words = inside.isEmpty() ? new String[0] : inside.split(", *");
        if (called.equals("peek")) {
            return Inside.peek(target, words[0]);
        }
        if (called.equals("put")) {
            return Inside.put(target, words[0], words[1]);
        }
        return invoke(method(called, words.length), words);
    }

    private Method method(String called, int arguments) {
        for (Method method : target.getClass().getDeclaredMethods()) {
            if (method.getName().equals(called) && method.getParameterCount() == arguments) {
                return method;
            }
        }
        throw new IllegalArgumentException(name + ": no method " + called + " of " + arguments + " arguments");
    }

    private String invoke(Method method, String[] words) {
        Class<?>[] types = method.getParameterTypes();
        Object[] arguments = new Object[words.length];
        for (int i = 0; i < words.length; i++) {
            arguments[i] = Inside.value(words[i], types[i]);
        }
        try {
            return String.valueOf(method.invoke(target, arguments));
        } catch (InvocationTargetException e) {
            return "throws." + e.getCause().getClass().getSimpleName();
        } catch (IllegalAccessException e) {
            throw new IllegalStateException(e);
        }
    }
}
