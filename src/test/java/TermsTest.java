/** Promises 1 to 16: symbols, the stack, places, matches, common instances, orders. */
public final class TermsTest {
    private static final Class<?> ARGUMENT = IllegalArgumentException.class;
    private static final Class<?> STATE = IllegalStateException.class;
    private static final Class<?> INDEX = IndexOutOfBoundsException.class;

    private TermsTest() {
    }

    public static void main(String[] args) {
        aNewObject();
        symbol();
        sum();
        variable();
        apply();
        applyAtTheBounds();
        drop();
        again();
        exchange();
        part();
        put();
        text();
        ofTerm();
        ofPlace();
        match();
        unify();
        unifyWhatIsLarge();
        comparePaths();
        compareWeights();
        Asked.finish("TermsTest");
    }

    private static Rewritehall full() {
        Rewritehall hall = Asked.hall(0, 1, 2);
        Asked.push(hall, "x0", "x1", "x2", "x3", "x4", "x5", "a", "b(a)");
        return hall;
    }

    private static void aNewObject() {
        Rewritehall hall = new Rewritehall();
        long d = 6107;
        for (int what = 0; what < 12; what++) {
            Asked.due("1 many(" + what + ")", hall.many(what), 0);
            d *= 31;
        }
        Asked.due("1 digest()", hall.digest(), d * 31 + 1);
    }

    private static void symbol() {
        Rewritehall hall = new Rewritehall();
        Asked.refused("2 arity -1", hall, ARGUMENT, () -> hall.symbol(-1, 1));
        Asked.refused("2 arity 3", hall, ARGUMENT, () -> hall.symbol(3, 1));
        Asked.refused("2 weight 0", hall, ARGUMENT, () -> hall.symbol(0, 0));
        Asked.refused("2 weight 10", hall, ARGUMENT, () -> hall.symbol(0, 10));
        for (int f = 0; f < 5; f++) {
            Asked.due("2 symbol", hall.symbol(f % 3, f == 4 ? 9 : f + 1), f);
        }
        Asked.due("2 rows", Asked.rows(hall, 0), "a01 b12 c23 d04 e19");
        Asked.refused("2 a sixth", hall, STATE, () -> hall.symbol(0, 1));
        Asked.refused("2 a sixth that is wrong", hall, ARGUMENT, () -> hall.symbol(0, 10));
    }

    private static void sum() {
        Rewritehall hall = Asked.hall(0, 1, 2);
        Asked.refused("3 -1", hall, INDEX, () -> hall.sum(-1, true));
        Asked.refused("3 behind all", hall, INDEX, () -> hall.sum(3, true));
        Asked.refused("3 without arguments", hall, ARGUMENT, () -> hall.sum(0, true));
        Asked.refused("3 one argument", hall, ARGUMENT, () -> hall.sum(1, false));
        Asked.due("3 at first", hall.sum(2, true), false);
        Asked.due("3 row", hall.row(0, 2), "c21+");
        Asked.due("3 again", hall.sum(2, false), true);
        Asked.due("3 row", hall.row(0, 2), "c21");
        Asked.due("3 at last", hall.sum(2, false), false);
    }

    private static void variable() {
        Rewritehall hall = new Rewritehall();
        Asked.refused("4 -1", hall, ARGUMENT, () -> hall.variable(-1));
        Asked.refused("4 6", hall, ARGUMENT, () -> hall.variable(6));
        for (int k = 0; k < 8; k++) {
            Asked.due("4 variable", hall.variable(k % 6), k + 1);
        }
        Asked.due("4 stack", Asked.rows(hall, 1), "x0 x1 x2 x3 x4 x5 x0 x1");
        Asked.refused("4 full", hall, STATE, () -> hall.variable(0));
        Asked.refused("4 full and wrong", hall, ARGUMENT, () -> hall.variable(6));
    }

    private static void apply() {
        Rewritehall hall = Asked.hall(0, 1, 2);
        Asked.refused("5 -1", hall, INDEX, () -> hall.apply(-1));
        Asked.refused("5 behind all", hall, INDEX, () -> hall.apply(3));
        Asked.refused("5 one of none", hall, STATE, () -> hall.apply(1));
        Asked.due("5 a", hall.apply(0), 1);
        Asked.refused("5 two of one", hall, STATE, () -> hall.apply(2));
        hall.variable(3);
        Asked.due("5 c(a,x3)", hall.apply(2), 3);
        Asked.due("5 b(c(a,x3))", hall.apply(1), 4);
        Asked.due("5 the top is the last argument", Asked.rows(hall, 1), "b(c(a,x3))");
    }

    private static void applyAtTheBounds() {
        Rewritehall hall = full();
        Asked.refused("5 a ninth", hall, STATE, () -> hall.apply(0));
        Asked.due("5 one argument on a full stack", hall.apply(1), 3);
        Asked.due("5 two arguments on a full stack", hall.apply(2), 5);
        Asked.due("5 the stack", Asked.rows(hall, 1), "x0 x1 x2 x3 x4 x5 c(a,b(b(a)))");
        Rewritehall large = Asked.hall(0, 1, 2);
        Asked.push(large, Asked.nested("b", 38, "a"));
        Asked.due("5 size 40", large.apply(1), 40);
        Asked.refused("5 size 41", large, STATE, () -> large.apply(1));
        large.apply(0);
        Asked.refused("5 size 42", large, STATE, () -> large.apply(2));
    }

    private static void drop() {
        Rewritehall hall = Asked.hall(0, 1);
        Asked.refused("6 empty", hall, STATE, () -> hall.drop());
        Asked.push(hall, "a", "b(a)");
        Asked.due("6 drop", hall.drop(), 1);
        Asked.due("6 stack", Asked.rows(hall, 1), "a");
        Asked.due("6 drop", hall.drop(), 0);
    }

    private static void again() {
        Rewritehall hall = Asked.hall(0, 1);
        Asked.refused("7 empty", hall, INDEX, () -> hall.again(0));
        Asked.push(hall, "a", "b(x1)");
        Asked.refused("7 -1", hall, INDEX, () -> hall.again(-1));
        Asked.refused("7 2", hall, INDEX, () -> hall.again(2));
        Asked.due("7 below", hall.again(1), 3);
        Asked.due("7 stack", Asked.rows(hall, 1), "a b(x1) a");
        Rewritehall full = full();
        Asked.refused("7 full", full, STATE, () -> full.again(0));
        Asked.refused("7 full and none", full, INDEX, () -> full.again(8));
        full.drop();
        full.again(6);
        Asked.due("7 the lowest one", full.text(0), "x0");
        full.drop();
        full.again(0);
        full.apply(1);
        Asked.due("7 the first one stays", Asked.rows(full, 1), "x0 x1 x2 x3 x4 x5 a b(a)");
    }

    private static void exchange() {
        Rewritehall hall = Asked.hall(0, 1);
        Asked.refused("8 empty", hall, STATE, () -> hall.exchange());
        Asked.push(hall, "b(b(a))");
        Asked.refused("8 one", hall, STATE, () -> hall.exchange());
        Asked.push(hall, "x2");
        Asked.due("8 exchange", hall.exchange(), 3);
        Asked.due("8 stack", Asked.rows(hall, 1), "x2 b(b(a))");
        Asked.due("8 and back", hall.exchange(), 1);
    }

    private static void part() {
        Rewritehall hall = Asked.hall(0, 1, 2);
        Asked.refused("9 empty", hall, INDEX, () -> hall.part(0));
        Asked.push(hall, "a", "c(b(x0),c(a,x1))");
        Asked.refused("9 -1", hall, INDEX, () -> hall.part(-1));
        Asked.refused("9 6", hall, INDEX, () -> hall.part(6));
        Asked.due("9 all", hall.part(0), 6);
        hall.again(0);
        Asked.due("9 the last", hall.part(5), 1);
        Asked.due("9 text", hall.text(0), "x1");
        hall.drop();
        Asked.due("9 inside", hall.part(3), 3);
        Asked.due("9 stack", Asked.rows(hall, 1), "a c(a,x1)");
    }

    private static void put() {
        Rewritehall hall = Asked.hall(0, 1, 2);
        Asked.refused("10 empty", hall, INDEX, () -> hall.put(0));
        Asked.push(hall, "c(b(x0),x1)");
        Asked.refused("10 no second", hall, INDEX, () -> hall.put(0));
        Asked.push(hall, "c(a,a)");
        Asked.refused("10 -1", hall, INDEX, () -> hall.put(-1));
        Asked.refused("10 4", hall, INDEX, () -> hall.put(4));
        Asked.due("10 inside", hall.put(1), 5);
        Asked.due("10 stack", Asked.rows(hall, 1), "c(c(a,a),x1)");
        Asked.push(hall, "b(a)");
        Asked.due("10 for all", hall.put(0), 2);
        Asked.due("10 stack", Asked.rows(hall, 1), "b(a)");
        Rewritehall large = Asked.hall(0, 1, 2);
        Asked.push(large, Asked.nested("b", 30, "a"), Asked.nested("b", 9, "x0"));
        Asked.due("10 size 40", large.put(30), 40);
        Asked.push(large, "b(a)");
        Asked.refused("10 size 41", large, STATE, () -> large.put(39));
        Asked.refused("10 size 41 and no place", large, INDEX, () -> large.put(40));
        Asked.due("10 size 40 once more", large.put(38), 40);
    }

    private static void text() {
        Rewritehall hall = Asked.hall(0, 1, 2, 0, 2);
        Asked.refused("11 empty", hall, INDEX, () -> hall.text(0));
        Asked.push(hall, "x5", "e(c(b(a),x0),e(d,x3))");
        Asked.due("11 top", hall.text(0), "e(c(b(a),x0),e(d,x3))");
        Asked.due("11 below", hall.text(1), "x5");
        Asked.refused("11 -1", hall, INDEX, () -> hall.text(-1));
        Asked.refused("11 2", hall, INDEX, () -> hall.text(2));
    }

    private static void ofTerm() {
        Rewritehall hall = new Rewritehall();
        hall.symbol(0, 3);
        hall.symbol(1, 2);
        hall.symbol(2, 9);
        Asked.refused("12 empty", hall, INDEX, () -> hall.ofTerm(0, 0));
        Asked.push(hall, "a", "c(b(b(x4)),c(x1,x4))");
        int[] wants = {7, 4, 2, 9 + 2 + 2 + 1 + 9 + 1 + 1, 4};
        int[] below = {1, 1, 0, 3, -1};
        for (int what = 0; what < 5; what++) {
            Asked.due("12 top " + what, hall.ofTerm(0, what), wants[what]);
            Asked.due("12 below " + what, hall.ofTerm(1, what), below[what]);
        }
        Asked.refused("12 what -1", hall, ARGUMENT, () -> hall.ofTerm(0, -1));
        Asked.refused("12 what 5", hall, ARGUMENT, () -> hall.ofTerm(0, 5));
        Asked.refused("12 none", hall, INDEX, () -> hall.ofTerm(2, 0));
        Asked.refused("12 none and what 5", hall, INDEX, () -> hall.ofTerm(-1, 5));
    }

    private static void ofPlace() {
        Rewritehall hall = Asked.hall(0, 1, 2);
        Asked.refused("13 empty", hall, INDEX, () -> hall.ofPlace(0, 9));
        Asked.push(hall, "c(b(x3),c(a,x1))");
        int[][] wants = {{2, 1, -1, 2, 0, -1}, {-1, -1, 3, -1, -1, 1}, {6, 2, 1, 3, 1, 1},
            {-1, 0, 1, 0, 3, 3}, {0, 0, 0, 0, 0, 0}};
        for (int what = 0; what < 5; what++) {
            for (int place = 0; place < 6; place++) {
                Asked.due("13 " + place + ", " + what, hall.ofPlace(place, what), wants[what][place]);
            }
        }
        Asked.refused("13 -1", hall, INDEX, () -> hall.ofPlace(-1, 0));
        Asked.refused("13 6", hall, INDEX, () -> hall.ofPlace(6, 5));
        Asked.refused("13 what -1", hall, ARGUMENT, () -> hall.ofPlace(0, -1));
        Asked.refused("13 what 5", hall, ARGUMENT, () -> hall.ofPlace(0, 5));
        hall.drop();
        Asked.tell(hall, "b(b(x0))=x0");
        hall.complete();
        Asked.push(hall, "c(b(b(a)),b(a))");
        for (int place = 0; place < 6; place++) {
            Asked.due("13 redex " + place, hall.ofPlace(place, 4), place == 1 ? 1 : 0);
        }
    }

    private static void match() {
        Rewritehall hall = Asked.hall(0, 1, 2);
        Asked.push(hall, "c(x3,c(x1,x3))");
        Asked.refused("14 one term", hall, STATE, () -> hall.match());
        Asked.push(hall, "c(b(x3),c(a,b(x3)))");
        Asked.due("14 match", hall.match(), "x1=a;x3=b(x3)");
        hall.exchange();
        Asked.due("14 none, the other way", hall.match(), "-");
        Asked.push(hall, "b(a)", "b(a)");
        Asked.due("14 without variables", hall.match(), "");
        Asked.push(hall, "c(x0,x0)", "c(a,b(a))");
        Asked.due("14 not the same", hall.match(), "-");
        hall.drop();
        Asked.push(hall, "x1");
        Asked.due("14 a variable is no symbol", hall.match(), "-");
    }

    private static void unify() {
        Rewritehall hall = Asked.hall(0, 1, 2);
        Asked.push(hall, "c(x4,b(x4))");
        Asked.refused("15 one term", hall, STATE, () -> hall.unify(true));
        Asked.push(hall, "c(b(x0),x1)");
        Asked.due("15 the same variables", hall.unify(false), "c(b(x0),b(b(x0)))");
        Asked.push(hall, "c(x2,x4)");
        Asked.due("15 named", hall.unify(true), "c(b(x0),x1)");
        Asked.push(hall, "x5", "b(x5)");
        Asked.due("15 a ring", hall.unify(false), "@");
        Asked.due("15 no ring, if apart", hall.unify(true), "b(x0)");
        hall.drop();
        Asked.push(hall, "x5");
        Asked.due("15 alike", hall.unify(false), "x0");
        Asked.push(hall, "b(x0)", "a");
        Asked.due("15 a clash", hall.unify(true), "%");
        hall.drop();
        hall.drop();
        hall.drop();
        Asked.push(hall, "c(c(x0,a),a)", "c(c(b(x0),b(a)),x1)");
        Asked.due("15 the ring comes first", hall.unify(false), "@");
        hall.drop();
        Asked.push(hall, "c(c(b(a),b(a)),x1)");
        Asked.due("15 the clash comes first", hall.unify(false), "%");
    }

    /** c(x0,c(x1,..)) and c(c(x1,x1),c(c(x2,x2),..)) have a common instance of twice the size for each variable. */
    private static void unifyWhatIsLarge() {
        Rewritehall hall = Asked.hall(0, 1, 2);
        Asked.push(hall, "c(x0,c(x1,x2))", "c(c(x1,x1),c(c(x2,x2),c(a,a)))");
        Asked.due("15 size 27", hall.unify(false),
            "c(c(c(c(a,a),c(a,a)),c(c(a,a),c(a,a))),c(c(c(a,a),c(a,a)),c(a,a)))");
        Asked.push(hall, "c(x0,c(x1,x2))", "c(c(x1,x1),c(c(x2,x2),c(b(a),b(b(a)))))");
        Asked.refused("15 size 48", hall, STATE, () -> hall.unify(false));
        Asked.push(hall, "c(x0,c(x0,a))", "c(" + Asked.nested("b", 17, "a") + ",x1)");
        Asked.due("15 size 40", hall.unify(true).length() > 0, true);
        hall.drop();
        hall.drop();
        Asked.push(hall, "c(x0,x0)", "c(" + Asked.nested("b", 19, "a") + ",x1)");
        Asked.refused("15 size 41", hall, STATE, () -> hall.unify(true));
    }

    private static int compared(Rewritehall hall, String s, String t, int which) {
        Asked.push(hall, s, t);
        int got = hall.compare(which);
        hall.drop();
        hall.drop();
        return got;
    }

    private static void comparePaths() {
        Rewritehall hall = Asked.hall(0, 1, 2, 0);
        Asked.refused("16 empty", hall, STATE, () -> hall.compare(0));
        Asked.push(hall, "a");
        Asked.refused("16 one", hall, STATE, () -> hall.compare(1));
        Asked.refused("16 which -1", hall, ARGUMENT, () -> hall.compare(-1));
        Asked.refused("16 which 2", hall, ARGUMENT, () -> hall.compare(2));
        hall.drop();
        Asked.due("16 alike", compared(hall, "b(x0)", "b(x0)", 0), 0);
        Asked.due("16 a variable in it", compared(hall, "b(x0)", "x0", 0), 1);
        Asked.due("16 the same variable", compared(hall, "x0", "x0", 0), 0);
        Asked.due("16 another variable", compared(hall, "b(x0)", "x1", 0), 9);
        Asked.due("16 variables", compared(hall, "x1", "x0", 0), 9);
        Asked.due("16 a greater symbol", compared(hall, "b(b(b(a)))", "d", 0), -1);
        Asked.due("16 an argument is greater", compared(hall, "b(d)", "c(a,a)", 0), 1);
        Asked.due("16 lists", compared(hall, "c(c(x0,x1),x2)", "c(x0,c(x1,x2))", 0), 1);
        Asked.due("16 the later argument too", compared(hall, "c(b(a),a)", "c(a,c(b(a),a))", 0), -1);
        Asked.due("16 the second argument", compared(hall, "c(a,b(x0))", "c(a,x0)", 0), 1);
        Asked.due("16 turned", compared(hall, "c(x0,x1)", "c(x1,x0)", 0), 9);
        Asked.due("16 a symbol over all", compared(hall, "c(x0,x1)", "b(b(x1))", 0), 1);
    }

    private static void compareWeights() {
        Rewritehall hall = new Rewritehall();
        hall.symbol(0, 5);
        hall.symbol(1, 1);
        hall.symbol(2, 1);
        hall.symbol(0, 5);
        Asked.due("16 alike by weights", compared(hall, "c(x0,a)", "c(x0,a)", 1), 0);
        Asked.due("16 heavier", compared(hall, "b(b(a))", "c(x0,x0)", 1), 9);
        Asked.due("16 heavier, with the variables", compared(hall, "c(x0,c(x0,a))", "c(x0,x0)", 1), 1);
        Asked.due("16 a variable more often", compared(hall, "c(a,x0)", "c(x0,x0)", 1), 9);
        Asked.due("16 the same weight, a greater symbol", compared(hall, "a", "d", 1), -1);
        Asked.due("16 the same weight and symbol", compared(hall, "c(b(x0),x1)", "c(x0,b(x1))", 1), 1);
        Asked.due("16 differing inside", compared(hall, "c(x0,c(a,d))", "c(x0,c(d,a))", 1), -1);
        Asked.due("16 variables", compared(hall, "x0", "x1", 1), 9);
        Asked.due("16 a variable and more", compared(hall, "b(x0)", "x0", 1), 1);
        Asked.due("16 turned", compared(hall, "c(x0,x1)", "c(x1,x0)", 1), 9);
        Asked.due("16 first differing arguments count", compared(hall, "c(b(c(x0,x1)),a)", "c(b(c(x1,x0)),a)", 1), 9);
        Asked.due("16 the order of the hall is another", hall.many(7), 0);
    }
}
