import java.io.ByteArrayOutputStream;
import java.io.IOException;
import java.io.OutputStream;
import java.net.URI;
import java.nio.file.Files;
import java.nio.file.Path;
import java.util.HashMap;
import java.util.List;
import java.util.Map;
import javax.tools.FileObject;
import javax.tools.ForwardingJavaFileManager;
import javax.tools.JavaCompiler;
import javax.tools.JavaFileManager;
import javax.tools.JavaFileObject;
import javax.tools.SimpleJavaFileObject;
import javax.tools.StandardJavaFileManager;
import javax.tools.ToolProvider;

/** Makes houses of a class whose source was changed at one place; comments and line ends do not count in it. */
final class Breaker {
    private static final Path SOURCE = Path.of("src/main/java/Seatrush.java");
    private static final URI PLACE = URI.create("memory:///Seatrush.java");

    private final JavaCompiler compiler = ToolProvider.getSystemJavaCompiler();
    private final String source;

    Breaker() throws IOException {
        String text = Files.readString(SOURCE).replaceAll("(?s)/\\*.*?\\*/", " ").replaceAll("//[^\n]*", " ");
        source = text.replaceAll("\\s+", " ");
    }

    Object whole() throws ReflectiveOperationException {
        return house(source);
    }

    Object broken(Edges.Break change) throws ReflectiveOperationException {
        int from = source.indexOf(change.scope());
        int at = from < 0 ? -1 : source.indexOf(change.old(), from);
        boolean isDouble = change.scope().isEmpty() && source.indexOf(change.old(), at + 1) >= 0;
        if (at < 0 || isDouble) {
            throw new IllegalArgumentException((isDouble ? "more than once" : "not") + " in the source: " + change);
        }
        return house(source.substring(0, at) + change.instead() + source.substring(at + change.old().length()));
    }

    private Object house(String text) throws ReflectiveOperationException {
        return new Classes(compiled(text)).loadClass("Seatrush").getConstructor().newInstance();
    }

    private Map<String, byte[]> compiled(String text) {
        Memory memory = new Memory(compiler.getStandardFileManager(null, null, null));
        StringBuilder said = new StringBuilder();
        boolean isCompiled = compiler.getTask(null, memory, fault -> said.append(fault.getMessage(null)).append(' '),
                List.of("-proc:none"), null, List.of(new Source(text))).call();
        if (!isCompiled) {
            throw new IllegalArgumentException("does not compile: " + said);
        }
        Map<String, byte[]> classes = new HashMap<>();
        memory.outputs.forEach((name, bytes) -> classes.put(name, bytes.toByteArray()));
        return classes;
    }

    private static final class Source extends SimpleJavaFileObject {
        private final String text;

        Source(String text) {
            super(PLACE, Kind.SOURCE);
            this.text = text;
        }

        @Override
        public CharSequence getCharContent(boolean isIgnoring) {
            return text;
        }
    }

    private static final class Memory extends ForwardingJavaFileManager<StandardJavaFileManager> {
        private final Map<String, ByteArrayOutputStream> outputs = new HashMap<>();

        Memory(StandardJavaFileManager files) {
            super(files);
        }

        @Override
        public JavaFileObject getJavaFileForOutput(JavaFileManager.Location location, String name,
                JavaFileObject.Kind kind, FileObject sibling) {
            return new SimpleJavaFileObject(URI.create("memory:///out/" + name), kind) {
                @Override
                public OutputStream openOutputStream() {
                    return outputs.computeIfAbsent(name, key -> new ByteArrayOutputStream());
                }
            };
        }
    }

    private static final class Classes extends ClassLoader {
        private final Map<String, byte[]> classes;

        Classes(Map<String, byte[]> classes) {
            super(ClassLoader.getPlatformClassLoader());
            this.classes = classes;
        }

        @Override
        protected Class<?> findClass(String name) throws ClassNotFoundException {
            byte[] bytes = classes.get(name);
            if (bytes == null) {
                throw new ClassNotFoundException(name);
            }
            return defineClass(name, bytes, 0, bytes.length);
        }
    }
}
