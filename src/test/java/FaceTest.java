import java.io.IOException;
import java.lang.reflect.Constructor;
import java.lang.reflect.Field;
import java.lang.reflect.Method;
import java.lang.reflect.Modifier;
import java.nio.file.Files;
import java.nio.file.Path;
import java.util.List;
import java.util.Set;
import java.util.TreeSet;

/** The class has the document's face and no more, and keeps to the rules of LANGUAGE.md that a text can show. */
public final class FaceTest {
    private static final Path SOURCE = Path.of("src/main/java/Seatrush.java");
    private static final String FACE = """
        int addRow(int, int, int) IllegalArgumentException IllegalStateException
        int addNight() IllegalStateException
        int setPrice(int, int) IllegalArgumentException
        boolean setFree(int, int, int, boolean) IndexOutOfBoundsException UnsupportedOperationException
        int addCode(char, int, boolean) IllegalArgumentException IllegalStateException
        int cost(int, int) IllegalArgumentException
        int price(int, int, int) IndexOutOfBoundsException
        char stateOf(int, int, int) IndexOutOfBoundsException
        int best(int, int) IndexOutOfBoundsException IllegalArgumentException NoSuchElementException
        int join(int) IndexOutOfBoundsException IllegalStateException
        boolean leave(int) IndexOutOfBoundsException
        int draw(int) IllegalArgumentException
        int setRate(int) IllegalArgumentException
        int place(int) IndexOutOfBoundsException NoSuchElementException
        int hold(int, int, int) IndexOutOfBoundsException IllegalArgumentException IllegalStateException \
        UnsupportedOperationException NoSuchElementException
        int drop(int) IndexOutOfBoundsException IllegalStateException
        int pay(int, int, int) IndexOutOfBoundsException IllegalArgumentException IllegalStateException
        char cartOf(int) IndexOutOfBoundsException
        int waitFor(int, int, int) IndexOutOfBoundsException IllegalArgumentException IllegalStateException \
        UnsupportedOperationException
        int tick(int) IllegalArgumentException
        int give(int, int, int, int) IndexOutOfBoundsException NoSuchElementException UnsupportedOperationException
        long cancel(int) IndexOutOfBoundsException
        boolean enter(int, int, int, int) IndexOutOfBoundsException UnsupportedOperationException
        int connect(int, boolean) IndexOutOfBoundsException
        int owner(int, int, int) IndexOutOfBoundsException NoSuchElementException
        long money()
        float soldShare(int) IndexOutOfBoundsException ArithmeticException
        double meanPaid() ArithmeticException
        boolean isSound()
        """;
    private static final List<String> FORBIDDEN = List.of(
        "->", "::", "\\btry\\b", "\\bcatch\\b", "\\bfinally\\b", "\\bsynchronized\\b", "\\bassert\\b", "static \\{",
        "\\bequals\\b", "\\bhashCode\\b", "\\btoString\\b", "\\bSystem\\.(out|nano|current)", "\\bObject\\b",
        "\\bFloat\\b", "\\bDouble\\b", "Exact\\(", "\\bpackage\\b", "\\bwhile \\(true\\)", "for \\(;;\\)");

    public static void main(String[] args) throws IOException {
        checkFace();
        checkHidden();
        checkText();
        Script.end();
    }

    private static void checkFace() {
        Set<String> wanted = new TreeSet<>(List.of(FACE.split("\n")));
        Set<String> found = new TreeSet<>();
        Set<String> names = new TreeSet<>();
        for (Method method : Seatrush.class.getDeclaredMethods()) {
            if (Modifier.isPublic(method.getModifiers())) {
                found.add(text(method));
                names.add(method.getName());
            }
        }
        expect(found.equals(wanted), "the public methods are " + found);
        for (Method method : Seatrush.class.getDeclaredMethods()) {
            boolean isPublic = Modifier.isPublic(method.getModifiers());
            expect(isPublic || Modifier.isPrivate(method.getModifiers()), method + " is neither public nor private");
            expect(isPublic || !names.contains(method.getName()), method + " bears the name of a public one");
        }
        expect(Modifier.isPublic(Seatrush.class.getModifiers()), "the class is public");
        expect(Modifier.isFinal(Seatrush.class.getModifiers()), "the class is final");
        Constructor<?>[] constructors = Seatrush.class.getDeclaredConstructors();
        expect(constructors.length == 1 && Modifier.isPublic(constructors[0].getModifiers()), "one public constructor");
    }

    private static String text(Method method) {
        StringBuilder text = new StringBuilder(method.getReturnType() + " " + method.getName() + "(");
        String between = "";
        for (Class<?> type : method.getParameterTypes()) {
            text.append(between).append(type);
            between = ", ";
        }
        text.append(")");
        for (Class<?> type : method.getExceptionTypes()) {
            text.append(" ").append(type.getSimpleName());
        }
        return text.toString();
    }

    private static void checkHidden() {
        expect(Seatrush.class.getDeclaredClasses().length <= 11, "at most twelve classes");
        for (Class<?> inside : Seatrush.class.getDeclaredClasses()) {
            expect(!Modifier.isPublic(inside.getModifiers()), inside + " is public");
            expect(Modifier.isStatic(inside.getModifiers()), inside + " is not static");
            checkFields(inside);
            for (Method method : inside.getDeclaredMethods()) {
                boolean isHidden = Modifier.isPrivate(method.getModifiers());
                expect(!isHidden || !FACE.contains(" " + method.getName() + "("), method + " bears the name of a public one");
            }
        }
        for (Field field : checkFields(Seatrush.class)) {
            expect(Modifier.isPrivate(field.getModifiers()), field + " is not private");
        }
    }

    private static Field[] checkFields(Class<?> inside) {
        int fields = 0;
        for (Field field : inside.getDeclaredFields()) {
            boolean isStatic = Modifier.isStatic(field.getModifiers());
            expect(!isStatic || Modifier.isFinal(field.getModifiers()), field + " is static and not final");
            fields += isStatic ? 0 : 1;
        }
        expect(fields <= 20, inside + " has too many fields");
        return inside.getDeclaredFields();
    }

    private static void checkText() throws IOException {
        String text = Files.readString(SOURCE);
        for (String word : FORBIDDEN) {
            expect(!java.util.regex.Pattern.compile(word).matcher(text).find(), "the source has " + word);
        }
        int methodStart = 0;
        List<String> lines = text.lines().toList();
        for (int i = 0; i < lines.size(); i++) {
            String line = lines.get(i);
            expect(line.chars().allMatch(sign -> sign < 127 && sign != '\t'), "another sign in line " + (i + 1));
            if (line.startsWith("import ")) {
                expect(line.equals("import java.util.NoSuchElementException;"), line);
            }
            if (line.isEmpty()) {
                methodStart = i;
            }
            expect(i - methodStart <= 40, "a long stretch ends at line " + (i + 1));
        }
    }

    private static void expect(boolean holds, String text) {
        if (!holds) {
            Script.fault("not so: " + text);
        }
    }
}
