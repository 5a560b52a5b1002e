import java.io.IOException;
import java.lang.reflect.Method;
import java.lang.reflect.Modifier;
import java.nio.file.Files;
import java.nio.file.Path;
import java.util.regex.Matcher;
import java.util.regex.Pattern;

/** README.md tells the truth: its example answers as it says, and it names each call of the face with its arguments. */
public final class ReadmeTest {
    private static final Pattern LINE = Pattern.compile("house\\.(\\w+\\(.*\\)); *// (throws )?([\\w.]+).*");

    public static void main(String[] args) throws IOException {
        String text = Files.readString(Path.of("README.md"));
        checkExample(text.substring(text.indexOf("```java") + 7, text.indexOf("\n```", text.indexOf("```java"))));
        for (Method method : Seatrush.class.getDeclaredMethods()) {
            if (Modifier.isPublic(method.getModifiers()) && !isNamed(text, method)) {
                Script.fault("README.md does not name " + method);
            }
        }
        Script.end();
    }

    private static void checkExample(String example) {
        StringBuilder steps = new StringBuilder();
        for (String line : example.strip().split("\n")) {
            Matcher matcher = LINE.matcher(line);
            if (matcher.matches()) {
                String thrown = matcher.group(2) == null ? "" : "throws.";
                steps.append(matcher.group(1)).append(" = ").append(thrown).append(matcher.group(3)).append('\n');
            } else if (!line.equals("Seatrush house = new Seatrush();")) {
                Script.fault("README.md: not a line of the example: " + line);
            }
        }
        Script.run("README.md", steps.toString());
    }

    private static boolean isNamed(String text, Method method) {
        int arguments = method.getParameterCount();
        String inside = arguments == 0 ? "" : "\\w+(, \\w+){" + (arguments - 1) + "}";
        return Pattern.compile("`" + method.getName() + "\\(" + inside + "\\)`").matcher(text).find();
    }
}
