import java.io.IOException;
import java.lang.reflect.InvocationTargetException;
import java.lang.reflect.Method;
import java.nio.file.Files;
import java.nio.file.Path;
import java.util.HashMap;
import java.util.List;
import java.util.Map;

/**
 * Runs of calls whose answers were found by another program, which was written from the document alone.
 * A line of a file in src/test/recorded is "new", or a call, " = ", and its answer (a boolean counts 1 or 0).
 */
public final class RecordedTest {
    private RecordedTest() {
    }

    public static void main(String[] args) throws IOException, IllegalAccessException {
        Map<String, Method> calls = new HashMap<>();
        for (Method m : Rewritehall.class.getDeclaredMethods()) {
            calls.put(m.getName(), m);
        }
        for (String name : new String[] {"runs", "conditions", "proofs"}) {
            int runs = replayed(name, Files.readAllLines(Path.of("src/test/recorded/" + name + ".txt")), calls);
            Asked.due(name, runs > 50, true);
        }
        Asked.finish("RecordedTest");
    }

    private static int replayed(String name, List<String> lines, Map<String, Method> calls)
            throws IllegalAccessException {
        Rewritehall hall = new Rewritehall();
        int run = 0;
        for (String line : lines) {
            if (line.equals("new")) {
                hall = new Rewritehall();
                run++;
                continue;
            }
            int middle = line.indexOf(" = ");
            String[] words = line.substring(0, middle).split(" ");
            String what = name + ", run " + run + ": " + line;
            Asked.due(what, answer(hall, calls.get(words[0]), words), line.substring(middle + 3));
        }
        return run;
    }

    private static String answer(Rewritehall hall, Method call, String[] words) throws IllegalAccessException {
        Object[] values = new Object[words.length - 1];
        for (int i = 0; i < values.length; i++) {
            values[i] = call.getParameterTypes()[i] == boolean.class ? (Object) words[i + 1].equals("true")
                : (Object) Integer.valueOf(words[i + 1]);
        }
        try {
            Object got = call.invoke(hall, values);
            return got instanceof Boolean ? ((Boolean) got ? "1" : "0") : String.valueOf(got);
        } catch (InvocationTargetException e) {
            return "throws." + e.getCause().getClass().getSimpleName();
        }
    }
}
