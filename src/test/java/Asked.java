/** What all tests of the project share: counting wrong answers, and building terms from their texts. */
final class Asked {
    interface Call {
        Object made();
    }

    interface Numbered {
        Object made(int n);
    }

    private static int wrong = 0;
    private static int asked = 0;

    private Asked() {
    }

    static void due(String what, Object got, Object want) {
        asked++;
        if (!want.equals(got)) {
            wrong++;
            System.out.println(what + ": answered " + got + ", due is " + want);
        }
    }

    /** The call has to throw exactly that exception, and to change nothing. */
    static void refused(String what, Rewritehall hall, Class<?> exception, Call call) {
        String before = state(hall);
        Object got;
        try {
            got = call.made();
        } catch (RuntimeException e) {
            got = e.getClass();
        }
        due(what, got, exception);
        due(what + ", the state behind it", state(hall), before);
    }

    /** Each of these numbers is refused, as the one that is nearest to a range is. */
    static void refusedOutside(String what, Rewritehall hall, Class<?> exception, int least, int most, Numbered call) {
        for (int n : new int[] {Integer.MIN_VALUE, least - 1, most + 1, Integer.MAX_VALUE}) {
            refused(what + " " + n, hall, exception, () -> call.made(n));
        }
    }

    /** All that can be asked for without a strategy. */
    static String state(Rewritehall hall) {
        StringBuilder all = new StringBuilder();
        for (int what = 0; what < 12; what++) {
            all.append(hall.many(what)).append(' ');
        }
        for (int what = 0; what < 7; what++) {
            all.append(rows(hall, what)).append('\n');
        }
        for (int i = 0; i < hall.many(1); i++) {
            all.append(hall.text(i)).append(' ');
        }
        return all.append(hall.digest()).toString();
    }

    static String rows(Rewritehall hall, int what) {
        StringBuilder all = new StringBuilder();
        for (int i = 0; i < hall.many(what); i++) {
            all.append(i == 0 ? "" : " ").append(hall.row(what, i));
        }
        return all.toString();
    }

    /** Puts terms on the stack, each told by its text. */
    static void push(Rewritehall hall, String... texts) {
        push(v -> hall.variable(v), f -> hall.apply(f), texts);
    }

    static void push(Numbered variable, Numbered apply, String... texts) {
        for (String text : texts) {
            int end = pushed(variable, apply, text, 0);
            if (end != text.length()) {
                throw new IllegalStateException("no term: " + text);
            }
        }
    }

    private static int pushed(Numbered variable, Numbered apply, String text, int from) {
        if (text.charAt(from) == 'x') {
            variable.made(text.charAt(from + 1) - '0');
            return from + 2;
        }
        int p = from + 1;
        if (p < text.length() && text.charAt(p) == '(') {
            do {
                p = pushed(variable, apply, text, p + 1);
            } while (text.charAt(p) == ',');
            p++;
        }
        apply.made(text.charAt(from) - 'a');
        return p;
    }

    static void drop(Rewritehall hall, int count) {
        for (int k = 0; k < count; k++) {
            hall.drop();
        }
    }

    /** Tells an equation, as "left=right". */
    static void tell(Rewritehall hall, String... equations) {
        for (String equation : equations) {
            int middle = equation.indexOf('=');
            push(hall, equation.substring(0, middle), equation.substring(middle + 1));
            hall.equation();
        }
    }

    /** A hall with symbols of these arities, all of weight 1. */
    static Rewritehall hall(int... arities) {
        Rewritehall hall = new Rewritehall();
        for (int arity : arities) {
            hall.symbol(arity, 1);
        }
        return hall;
    }

    /** A text with a sign so many times around what is inside. */
    static String nested(String sign, int times, String inside) {
        return (sign + "(").repeat(times) + inside + ")".repeat(times);
    }

    static void finish(String name) {
        System.out.println(name + ": " + asked + " asked, " + wrong + " wrong");
        if (wrong > 0) {
            System.exit(1);
        }
    }
}
