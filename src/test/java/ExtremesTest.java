import java.lang.reflect.InvocationTargetException;
import java.lang.reflect.Method;
import java.lang.reflect.Modifier;
import java.util.ArrayList;
import java.util.Arrays;
import java.util.Comparator;
import java.util.List;
import java.util.Random;

/** All calls with any arguments in any order: only what is promised is thrown, and it changes nothing. */
public final class ExtremesTest {
    private static final int[] NUMBERS = {Integer.MIN_VALUE, Integer.MAX_VALUE, -2, -1, 0, 0, 0, 1, 1, 1, 2, 2, 3,
        4, 5, 6, 7, 8, 12, 13, 39, 40, 41, 1000000};

    private ExtremesTest() {
    }

    public static void main(String[] args) throws IllegalAccessException {
        List<Method> calls = new ArrayList<>();
        for (Method m : Rewritehall.class.getDeclaredMethods()) {
            if (Modifier.isPublic(m.getModifiers())) {
                calls.add(m);
            }
        }
        calls.sort(Comparator.comparing(Method::getName));
        Asked.due("46 methods, so many are public", calls.size(), 45);
        Random random = new Random(6107);
        for (int run = 0; run < 150; run++) {
            Rewritehall hall = new Rewritehall();
            if (run % 4 != 0) {
                hall.example(run % 3, run % 2 == 0);
            }
            for (int k = 0; k < 170; k++) {
                asked(hall, calls, random);
            }
        }
        Asked.finish("ExtremesTest");
    }

    private static void asked(Rewritehall hall, List<Method> calls, Random random) throws IllegalAccessException {
        Method call = calls.get(random.nextInt(calls.size()));
        if (random.nextInt(3) == 0) {
            String[] often = {"variable", "apply", "equation", "complete", "again", "finish"};
            String name = often[random.nextInt(often.length)];
            call = calls.stream().filter(m -> m.getName().equals(name)).findFirst().orElse(call);
        }
        Class<?>[] types = call.getParameterTypes();
        Object[] values = new Object[types.length];
        for (int i = 0; i < values.length; i++) {
            values[i] = types[i] == boolean.class ? (Object) random.nextBoolean()
                : (Object) NUMBERS[random.nextInt(NUMBERS.length)];
        }
        String before = Asked.state(hall);
        try {
            call.invoke(hall, values);
        } catch (InvocationTargetException e) {
            Class<?> thrown = e.getCause().getClass();
            String what = call.getName() + Arrays.toString(values);
            Asked.due(what + " throws " + thrown, Arrays.asList(call.getExceptionTypes()).contains(thrown), true);
            Asked.due(what + " changes", Asked.state(hall), before);
        }
    }
}
