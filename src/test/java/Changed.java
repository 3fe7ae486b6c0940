import java.io.IOException;
import java.lang.reflect.InvocationTargetException;
import java.lang.reflect.Method;
import java.net.URL;
import java.net.URLClassLoader;
import java.nio.file.Files;
import java.nio.file.Path;
import java.util.Comparator;
import java.util.List;
import java.util.regex.Pattern;
import java.util.stream.Collectors;
import java.util.stream.Stream;
import javax.tools.JavaCompiler;
import javax.tools.ToolProvider;

/** The class compiled once more, with some changes of its source: what stands there once is replaced. */
final class Changed implements AutoCloseable {
    private final Path place;
    private final URLClassLoader loader;
    private final Class<?> type;

    /** Each change is what stands in the source, and what comes in its place. */
    Changed(String[]... changes) throws IOException, ReflectiveOperationException {
        place = Files.createTempDirectory("changed");
        loader = new URLClassLoader(new URL[] {place.toUri().toURL()}, ClassLoader.getPlatformClassLoader());
        String source = Files.readString(Path.of("src/main/java/Rewritehall.java"));
        for (String[] change : changes) {
            Asked.due("how often the source has " + change[0], source.split(Pattern.quote(change[0]), -1).length - 1, 1);
            source = source.replace(change[0], change[1]);
        }
        Path file = place.resolve("Rewritehall.java");
        Files.writeString(file, source);
        JavaCompiler compiler = ToolProvider.getSystemJavaCompiler();
        int told = compiler.run(null, null, null, "-nowarn", "-d", place.toString(), file.toString());
        Asked.due("it compiles", told, 0);
        type = loader.loadClass("Rewritehall");
    }

    Hall hall() throws ReflectiveOperationException {
        return new Hall(type);
    }

    @Override
    public void close() throws IOException {
        loader.close();
        try (Stream<Path> files = Files.walk(place)) {
            for (Path file : files.sorted(Comparator.reverseOrder()).collect(Collectors.toList())) {
                Files.delete(file);
            }
        }
    }

    /** A hall of the class itself, or of a changed one. */
    static final class Hall {
        private final Class<?> type;
        private final Object it;

        Hall(Class<?> type) throws ReflectiveOperationException {
            this.type = type;
            it = type.getConstructor().newInstance();
        }

        /** What a call answers, or the name of the exception that it throws. */
        String asked(String name, Object... values) {
            try {
                for (Method m : type.getDeclaredMethods()) {
                    if (m.getName().equals(name)) {
                        return String.valueOf(m.invoke(it, values));
                    }
                }
            } catch (InvocationTargetException e) {
                return e.getCause().getClass().getSimpleName();
            } catch (IllegalAccessException e) {
                throw new IllegalArgumentException(e);
            }
            throw new IllegalArgumentException(name + " of " + List.of(values));
        }

        void symbols(int... arities) {
            for (int arity : arities) {
                asked("symbol", arity, 1);
            }
        }

        void push(String... texts) {
            Asked.push(v -> asked("variable", v), f -> asked("apply", f), texts);
        }

        /** Tells an equation, as "left=right"; tells what the step of completion behind it told. */
        String completed(String equation) {
            int middle = equation.indexOf('=');
            push(equation.substring(0, middle), equation.substring(middle + 1));
            asked("equation");
            return asked("complete");
        }

        int many(int what) {
            return Integer.parseInt(asked("many", what));
        }
    }
}
