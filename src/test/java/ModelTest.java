import java.lang.reflect.InvocationTargetException;
import java.lang.reflect.Method;
import java.lang.reflect.Modifier;
import java.util.ArrayList;
import java.util.Arrays;
import java.util.List;
import java.util.Map;
import java.util.Random;
import java.util.TreeMap;
import java.util.TreeSet;

/** Random runs: the class has to answer each call as the Model does, which follows the document word by word. */
public final class ModelTest {
    private static final int[][] SYMBOLS = {{0, 1, 2}, {0, 1, 2, 1}, {1, 1, 1}, {0, 2, 1, 0}, {2, 0, 2},
        {0, 1, 2, 2, 0}, {1, 1}, {0, 0, 2, 1, 1}};
    private static final int[] EDGES = {Integer.MIN_VALUE, -2, -1, 6, 7, 8, 9, 12, 13, 39, 40, 41, Integer.MAX_VALUE};
    private static final Map<String, Method> OF_MODEL = publicCalls(Model.class);
    private static final Map<String, Method> OF_HALL = publicCalls(Rewritehall.class);

    private final int seed;
    private final Random random;
    private final Model model = new Model();
    private final Rewritehall hall = new Rewritehall();
    private int[] variables = {0, 1, 2};
    private int calls;

    private ModelTest(int seed) {
        this.seed = seed;
        random = new Random(seed);
    }

    public static void main(String[] args) {
        Asked.due("both have the same calls", OF_MODEL.keySet(), OF_HALL.keySet());
        int from = args.length > 0 ? Integer.parseInt(args[0]) : 0;
        int to = args.length > 1 ? Integer.parseInt(args[1]) : 800;
        for (int seed = from; seed < to; seed++) {
            try {
                new ModelTest(seed).run();
            } catch (Model.TooMuch e) {
                Asked.due("a run that is too much for the model", true, true);
            }
        }
        Asked.finish("ModelTest");
    }

    private static Map<String, Method> publicCalls(Class<?> type) {
        Map<String, Method> all = new TreeMap<>();
        for (Method m : type.getDeclaredMethods()) {
            if (Modifier.isPublic(m.getModifiers())) {
                m.setAccessible(true);
                all.put(m.getName(), m);
            }
        }
        return all;
    }

    private static Object answer(Method call, Object object, Object[] values) {
        try {
            return call.invoke(object, values);
        } catch (InvocationTargetException e) {
            if (e.getCause() instanceof Model.TooMuch) {
                throw (Model.TooMuch) e.getCause();
            }
            return e.getCause() instanceof Model.Bound ? IllegalStateException.class : e.getCause().getClass();
        } catch (IllegalAccessException e) {
            throw new IllegalStateException(e);
        }
    }

    private Object ask(String name, Object... values) {
        calls++;
        Object due = answer(OF_MODEL.get(name), model, values);
        Asked.due("run " + seed + ", call " + calls + " " + name + Arrays.toString(values),
            answer(OF_HALL.get(name), hall, values), due);
        return due;
    }

    private int below(int most) {
        return most < 2 ? 0 : random.nextInt(most);
    }

    private boolean isOneOf(int many) {
        return random.nextInt(many) == 0;
    }

    /** As many as the model answers to that call; one if it throws. */
    private int asMany(String name) {
        Object got = answer(OF_MODEL.get(name), model, new Object[0]);
        return got instanceof Integer ? (Integer) got : 1;
    }

    private int sizeOf(int i) {
        return model.many(1) > i ? model.ofTerm(i, 0) : 1;
    }

    private List<Integer> symbolsOf(int arity) {
        List<Integer> all = new ArrayList<>();
        for (int f = 0; f < model.many(0); f++) {
            if (model.row(0, f).charAt(1) - '0' == arity) {
                all.add(f);
            }
        }
        return all;
    }

    private void leave(int most) {
        while (model.many(1) > most) {
            ask("drop");
        }
    }

    /** Puts a term on the stack, of about that size. */
    private void push(int size, boolean isGround) {
        leave(7);
        List<List<Integer>> symbols = List.of(symbolsOf(0), symbolsOf(1), symbolsOf(2));
        build(size, isGround, symbols);
    }

    private int oneOf(List<Integer> symbols) {
        return symbols.get(below(symbols.size()));
    }

    private void build(int size, boolean isGround, List<List<Integer>> symbols) {
        boolean isTwo = !symbols.get(2).isEmpty() && size > 2 && model.many(1) < 7
            && (symbols.get(1).isEmpty() || !isOneOf(3));
        if (isTwo) {
            int left = 1 + below(size - 2);
            build(left, isGround, symbols);
            build(size - 1 - left, isGround, symbols);
            ask("apply", oneOf(symbols.get(2)));
        } else if (size > 1 && !symbols.get(1).isEmpty()) {
            build(size - 1, isGround, symbols);
            ask("apply", oneOf(symbols.get(1)));
        } else if (symbols.get(0).isEmpty() || !isGround && !isOneOf(3)) {
            ask("variable", variables[below(variables.length)]);
        } else {
            ask("apply", oneOf(symbols.get(0)));
        }
    }

    private void tellAnEquation(int size) {
        leave(6);
        push(1 + below(size), false);
        push(1 + below(size), false);
        ask("equation");
    }

    /** A side, and itself with other variables at some places: most often these become unturned. */
    private void tellATurnedOne(int size) {
        leave(5);
        push(2 + below(size), false);
        ask("again", 0);
        for (int k = 0; k < 2; k++) {
            int most = sizeOf(0);
            ask("variable", variables[below(variables.length)]);
            ask("put", below(most));
        }
        ask("equation");
    }

    private void tellACondition(int size) {
        leave(3);
        push(2 + below(size), false);
        int[] before = variables;
        TreeSet<Integer> has = new TreeSet<>();
        for (int place = 0; place < sizeOf(0); place++) {
            has.add(model.ofPlace(place, 1));
        }
        has.remove(-1);
        if (!has.isEmpty() && !isOneOf(8)) {
            variables = has.stream().mapToInt(v -> v).toArray();
        }
        for (int k = 0; k < 3; k++) {
            push(1 + below(size), has.isEmpty());
        }
        variables = before;
        ask("condition");
    }

    private void begin() {
        if (isOneOf(8)) {
            ask("example", below(3), random.nextBoolean());
            return;
        }
        int[] arities = SYMBOLS[seed % SYMBOLS.length];
        for (int arity : arities) {
            ask("symbol", isOneOf(12) ? below(3) : arity, isOneOf(3) ? 1 + below(9) : 1);
        }
        if (isOneOf(3)) {
            ask("order", 1);
        }
        ask("sum", below(arities.length), true);
        variables = isOneOf(4) ? new int[] {0, 1, 2, 3, 4, 5} : isOneOf(2) ? new int[] {0, 1} : new int[] {0, 1, 2};
    }

    private void run() {
        begin();
        int size = isOneOf(3) ? 12 : 3 + below(5);
        boolean isTurned = isOneOf(4);
        for (int k = below(5); k > 0; k--) {
            if (isTurned) {
                tellATurnedOne(size);
            } else {
                tellAnEquation(size);
            }
        }
        boolean isGuarded = isOneOf(3);
        int most = 100 + below(400);
        while (calls < most) {
            int which = below(100);
            if (which < 25) {
                ask(which < 16 ? "complete" : "finish", which < 16 ? new Object[0] : new Object[] {1 + below(12)});
            } else if (which < 27) {
                tellAnEquation(size);
            } else if (which < 29) {
                tellATurnedOne(size);
            } else if (which < 32 && isGuarded) {
                tellACondition(4);
            } else if (which < 45) {
                push(1 + below(isOneOf(4) ? 39 : 14), isOneOf(3));
                ask("again", 0);
                ask("end", below(4));
            } else if (which < 55) {
                changeTheStack();
            } else if (which < 57) {
                askAnything();
            } else {
                askOneOfTheWhole();
            }
        }
        ask("digest");
        for (int what = 0; what < 12; what++) {
            ask("many", what);
        }
    }

    private void changeTheStack() {
        switch (below(7)) {
            case 0:
                ask("exchange");
                break;
            case 1:
                ask("again", below(model.many(1) + 1));
                break;
            case 2:
                ask("part", below(sizeOf(0) + 1));
                break;
            case 3:
                ask("put", below(sizeOf(1) + 1));
                break;
            case 4:
                ask("apply", below(model.many(0)));
                break;
            case 5:
                ask("sumForm");
                break;
            default:
                ask("drop");
        }
    }

    /** Any call, often with numbers that are refused. */
    private void askAnything() {
        List<String> names = new ArrayList<>(OF_HALL.keySet());
        String name = names.get(below(names.size()));
        if ((name.equals("example") || name.equals("restart")) && !isOneOf(4)) {
            return;
        }
        Class<?>[] types = OF_HALL.get(name).getParameterTypes();
        Object[] values = new Object[types.length];
        for (int i = 0; i < values.length; i++) {
            values[i] = types[i] == boolean.class ? (Object) random.nextBoolean()
                : (Object) (isOneOf(3) ? EDGES[below(EDGES.length)] : below(6));
        }
        ask(name, values);
    }

    private void askOneOfTheWhole() {
        switch (below(12)) {
            case 0:
                ask("overlap", below(asMany("overlaps") + 1), below(5));
                ask("missing");
                break;
            case 1:
                ask("isSound");
                ask("overlaps");
                break;
            case 2:
                ask("same");
                ask("isProved");
                break;
            case 3:
            case 4:
                int uses = asMany("proofSize");
                ask("proofSize");
                ask("proofUse", below(uses + 1));
                ask("proofTerm", below(uses + 2));
                break;
            case 5:
                ask("redexes");
                ask("steps", below(4));
                ask("step", below(4));
                break;
            case 6:
                ask("ofRule", below(model.many(3) + 1), below(3));
                int what = below(7);
                ask("row", what, below(model.many(what) + 1));
                break;
            case 7:
                ask("match");
                ask("unify", random.nextBoolean());
                ask("compare", below(2));
                break;
            case 8:
                ask("ofPlace", below(sizeOf(0) + 1), below(5));
                ask("ofTerm", below(model.many(1) + 1), below(5));
                break;
            case 9:
                ask("likeSums");
                ask("ends", 1 + below(6));
                break;
            case 10:
                ask("tables", 2 + below(2));
                ask("table", 2 + below(2));
                break;
            default:
                ask("digest");
        }
    }
}
