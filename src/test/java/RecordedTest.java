import java.io.IOException;
import java.lang.reflect.InvocationTargetException;
import java.lang.reflect.Method;
import java.nio.file.Files;
import java.nio.file.Path;
import java.util.HashMap;
import java.util.List;
import java.util.Map;

/**
 * Runs of calls whose answers were found by another program, which was written from the document alone.
 * A line of src/test/recorded/runs.txt is "new", or a call, " = ", and its answer (a boolean counts 1 or 0).
 */
public final class RecordedTest {
    private RecordedTest() {
    }

    public static void main(String[] args) throws IOException, IllegalAccessException {
        Map<String, Method> calls = new HashMap<>();
        for (Method m : Rewritehall.class.getDeclaredMethods()) {
            calls.put(m.getName(), m);
        }
        List<String> lines = Files.readAllLines(Path.of("src/test/recorded/runs.txt"));
        Rewritehall hall = new Rewritehall();
        int run = 0;
        for (String line : lines) {
            if (line.equals("new")) {
                hall = new Rewritehall();
                run++;
                continue;
            }
            int middle = line.indexOf(" = ");
            String[] words = line.substring(0, middle).split(" ");
            Asked.due("run " + run + ": " + line, answer(hall, calls.get(words[0]), words), line.substring(middle + 3));
        }
        Asked.due("runs", run > 50, true);
        Asked.finish("RecordedTest");
    }

    private static String answer(Rewritehall hall, Method call, String[] words) throws IllegalAccessException {
        Object[] values = new Object[words.length - 1];
        for (int i = 0; i < values.length; i++) {
            values[i] = call.getParameterTypes()[i] == boolean.class ? (Object) words[i + 1].equals("true")
                : (Object) Integer.valueOf(words[i + 1]);
        }
        try {
            Object got = call.invoke(hall, values);
            return got instanceof Boolean ? ((Boolean) got ? "1" : "0") : String.valueOf(got);
        } catch (InvocationTargetException e) {
            return "throws." + e.getCause().getClass().getSimpleName();
        }
    }
}
