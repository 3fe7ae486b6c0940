/**
 * Promises 17 to 23 at their edges: the last one that is kept, the first one that is not, which exception comes first
 * if several apply, and that a call that is refused changes nothing.
 */
public final class BoundsOfStepsTest {
    private static final Class<?> ARGUMENT = IllegalArgumentException.class;
    private static final Class<?> STATE = IllegalStateException.class;

    private BoundsOfStepsTest() {
    }

    public static void main(String[] args) {
        equationTakesTwo();
        equationTakesTen();
        equationTakesOneMoreOf119();
        equationIsNamed();
        conditionTakesFourTerms();
        conditionTakesFourRules();
        conditionNamesTheStateFirst();
        conditionTakesWhatIsLess();
        conditionGoesByTheOrder();
        conditionTakesAConstantThatIsGreater();
        orderTakesTwo();
        orderStaysWithEachRow();
        callsWithoutATop();
        strategiesAreFour();
        stepTakesSize40();
        endsTakeSize40();
        endsTake60Steps();
        endsTakeSize40OnTheWay();
        onesTakeSize40();
        othersTakeSize40();
        onesTake60Steps();
        othersTake60Steps();
        endsTake60StepsByThemselves();
        endsOfConditionsTakeSize40OnTheWay();
        stepsTakeSize40WithConditions();
        looksAreMadeAnew();
        conditionsAreLookedAtAsFarAsNeeded();
        redexesAreAllOrNone();
        unturnedOnesComeInTheirOrder();
        unturnedOnesBringNoNewVariables();
        unturnedOnesTakeWhatIsGreater();
        endsOfConditionsGoByTheStrategy0();
        Asked.finish("BoundsOfStepsTest");
    }

    private static void equationTakesTwo() {
        Rewritehall hall = Asked.hall(0);
        Asked.refused("17 none", hall, STATE, () -> hall.equation());
        Asked.push(hall, "a");
        Asked.refused("17 one", hall, STATE, () -> hall.equation());
        Asked.push(hall, "x0");
        Asked.due("17 two", hall.equation(), 0);
        Asked.due("17 both are taken away", hall.many(1), 0);
        Asked.due("17 the second is the left side", hall.row(2, 0) + " " + hall.row(4, 0), "a=x0 a=x0");
        Asked.push(hall, "x1", "x2", "x3", "x4", "x5", "a", "a", "x3");
        Asked.due("17 two of eight", hall.equation() + " " + Asked.rows(hall, 1), "1 x1 x2 x3 x4 x5 a");
    }

    private static void equationTakesTen() {
        Rewritehall hall = Asked.hall(0, 1);
        for (int k = 0; k < 10; k++) {
            Asked.push(hall, "b(a)", "a");
            Asked.due("17 its number", hall.equation(), k);
        }
        Asked.due("17 all of them wait", hall.many(2) + " " + hall.many(4) + " " + hall.many(10), "10 10 10");
        Asked.push(hall, "a", "a");
        Asked.refused("17 an eleventh", hall, STATE, () -> hall.equation());
        Asked.due("17 the first is a rule, the others are dropped", hall.finish(12), 10);
        Asked.refused("17 an eleventh, though none waits", hall, STATE, () -> hall.equation());
        hall.restart();
        Asked.refused("17 an eleventh behind a restart", hall, STATE, () -> hall.equation());
        hall.example(1, true);
        Asked.push(hall, "a", "a");
        Asked.due("17 a fifth one behind an example", hall.equation(), 4);
        hall.example(0, true);
        Asked.push(hall, "a", "a");
        Asked.refused("17 the finished groups are ten", hall, STATE, () -> hall.equation());
    }

    private static void equationTakesOneMoreOf119() {
        Rewritehall hall = Full.waiting(119);
        Asked.due("4 119 wait by nine equations", hall.many(4) + " " + hall.many(2), "119 9");
        Asked.push(hall, "a", "b(a)");
        Asked.due("17 a tenth that is the 120th to wait", hall.equation(), 9);
        Asked.due("4 120 wait", hall.many(4), 120);
        Rewritehall full = Full.waiting(120);
        Asked.due("4 120 wait by nine equations", full.many(4) + " " + full.many(2), "120 9");
        Asked.push(full, "a", "b(a)");
        Asked.refused("17 a tenth that would be the 121st to wait", full, STATE, () -> full.equation());
    }

    private static void equationIsNamed() {
        Rewritehall hall = Asked.hall(0, 1, 2);
        Asked.tell(hall, "c(x5,c(x3,x5))=c(x0,x3)", "a=x4", "x2=x2", "c(x1,x2)=c(x3,c(x4,c(x5,x0)))");
        Asked.due("17 named", Asked.rows(hall, 2),
            "c(x0,c(x1,x0))=c(x2,x1) a=x0 x0=x0 c(x0,x1)=c(x2,c(x3,c(x4,x5)))");
    }

    private static void conditionTakesFourTerms() {
        Rewritehall hall = Asked.hall(0, 1);
        String[] terms = {"b(x0)", "a", "x0", "a"};
        for (int k = 0; k < 4; k++) {
            Asked.refused("18 with " + k, hall, STATE, () -> hall.condition());
            Asked.push(hall, terms[k]);
        }
        Asked.due("18 with four", hall.condition(), 0);
        Asked.due("18 all are taken away", hall.many(1), 0);
        Asked.due("18 the other is the top", hall.row(6, 0), "b(x0)>a|x0=a");
        Asked.push(hall, "x1", "x2", "x3", "x4", "b(x0)", "a", "x0", "a");
        Asked.due("18 four of eight", hall.condition() + " " + Asked.rows(hall, 1), "1 x1 x2 x3 x4");
    }

    private static void conditionTakesFourRules() {
        Rewritehall hall = Asked.hall(0, 1);
        for (int k = 0; k < 4; k++) {
            Asked.push(hall, "b(x0)", "a", "x0", "a");
            Asked.due("18 its place", hall.condition(), k);
        }
        Asked.push(hall, "b(x0)", "a", "x0", "a");
        Asked.refused("18 a fifth", hall, STATE, () -> hall.condition());
        Asked.due("18 four", hall.many(6), 4);
        hall.restart();
        Asked.due("18 the first behind a restart", hall.condition(), 0);
    }

    private static void conditionNamesTheStateFirst() {
        Rewritehall hall = Asked.hall(0, 1);
        Asked.push(hall, "x0", "b(x1)", "b(x2)");
        Asked.refused("18 three that are wrong", hall, STATE, () -> hall.condition());
        hall.apply(0);
        Asked.refused("18 four that are wrong", hall, ARGUMENT, () -> hall.condition());
        Asked.drop(hall, 4);
        for (int k = 0; k < 4; k++) {
            Asked.push(hall, "b(x0)", "a", "x0", "a");
            hall.condition();
        }
        Asked.push(hall, "x0", "b(x1)", "b(x2)", "a");
        Asked.refused("18 a fifth that is wrong", hall, STATE, () -> hall.condition());
        hall.drop();
        Asked.refused("18 a fifth of three", hall, STATE, () -> hall.condition());
    }

    private static void told(Rewritehall hall, String what, boolean isRight, String... terms) {
        Asked.push(hall, terms);
        if (isRight) {
            Asked.due("18 " + what, hall.condition(), 0);
            hall.restart();
        } else {
            Asked.refused("18 " + what, hall, ARGUMENT, () -> hall.condition());
            Asked.drop(hall, 4);
        }
    }

    private static void conditionTakesWhatIsLess() {
        Rewritehall hall = Asked.hall(0, 1, 2, 1);
        told(hall, "a variable", false, "x0", "x0", "x0", "x0");
        told(hall, "a constant", false, "a", "a", "a", "a");
        told(hall, "a symbol over all", true, "d(x1)", "x1", "b(x1)", "c(x1,x1)");
        for (int k = 0; k < 3; k++) {
            for (String wrong : new String[] {"x1", "d(x0)", "d(d(x0))", "c(x0,x1)"}) {
                String[] others = {"x0", "a", "b(x0)"};
                others[k] = wrong;
                told(hall, wrong + " at " + k, false, "d(x0)", others[0], others[1], others[2]);
            }
        }
        told(hall, "a variable of the left side that is not its first", true, "c(x5,x2)", "x2", "x5", "b(x2)");
        told(hall, "size 40", true, Asked.nested("d", 39, "x3"), Asked.nested("d", 38, "x3"),
            Asked.nested("b", 39, "x3"), "x3");
    }

    /** c(x0) is greater than b(x0) by paths, and less by weights. */
    private static void conditionGoesByTheOrder() {
        Rewritehall hall = new Rewritehall();
        hall.symbol(0, 1);
        hall.symbol(1, 5);
        hall.symbol(1, 1);
        told(hall, "c(x0) is over b(x0) by paths", true, "c(x0)", "b(x0)", "x0", "a");
        told(hall, "b(x0) is not over c(x0) by paths", false, "b(x0)", "c(x0)", "x0", "a");
        hall.order(1);
        told(hall, "c(x0) is not over b(x0) by weights", false, "c(x0)", "b(x0)", "x0", "x0");
        told(hall, "b(x0) is over c(x0) by weights", true, "b(x0)", "c(x0)", "x0", "a");
        told(hall, "the one by weights", false, "c(x0)", "x0", "b(x0)", "x0");
        told(hall, "the other by weights", false, "c(x0)", "x0", "x0", "b(x0)");
    }

    /** By weights a constant may be greater than others, and be a left side. */
    private static void conditionTakesAConstantThatIsGreater() {
        Rewritehall hall = new Rewritehall();
        hall.symbol(0, 9);
        hall.symbol(0, 8);
        hall.symbol(1, 1);
        told(hall, "a is not over b by paths", false, "a", "b", "b", "b");
        hall.order(1);
        told(hall, "a is over b by weights", true, "a", "b", "b", "b");
        told(hall, "a is not over c(b) by weights, which is as heavy", false, "a", "b", "c(b)", "b");
        told(hall, "a is not over a", false, "a", "b", "b", "a");
        Asked.push(hall, "a", "b", "c(c(b))", "c(c(b))");
        Asked.refused("18 a is not over c(c(b)) by weights", hall, ARGUMENT, () -> hall.condition());
        Asked.drop(hall, 2);
        Asked.push(hall, "b", "b");
        Asked.due("18 no variables", hall.condition() + " " + hall.row(6, 0), "0 a>b|b=b");
        Asked.push(hall, "c(a)");
        Asked.due("20 a constant is a redex", hall.step(0) + " " + hall.text(0), "1 c(b)");
    }

    private static void orderTakesTwo() {
        Rewritehall hall = Asked.hall(0, 1);
        Asked.refusedOutside("19 no order", hall, ARGUMENT, 0, 1, n -> hall.order(n));
        Asked.due("19 0 at first", hall.order(1), 0);
        Asked.due("19 1 then", hall.order(1) + " " + hall.many(7), "1 1");
        Asked.refusedOutside("19 no order", hall, ARGUMENT, 0, 1, n -> hall.order(n));
        Asked.due("19 and back", hall.order(0) + " " + hall.many(7), "1 0");
        Asked.tell(hall, "b(a)=a");
        Asked.push(hall, "b(a)");
        Asked.due("19 with symbols, terms, an equation that waits", hall.order(1), 0);
        hall.example(1, true);
        Asked.due("19 0 behind an example", hall.order(0), 0);
    }

    private static void orderStaysWithEachRow() {
        Rewritehall rule = Asked.hall(0, 1);
        Asked.tell(rule, "b(a)=a");
        rule.complete();
        Rewritehall unturned = Full.unturned(1);
        Rewritehall guarded = Asked.hall(0, 1);
        Asked.push(guarded, "b(x0)", "a", "x0", "a");
        guarded.condition();
        for (Rewritehall hall : new Rewritehall[] {rule, unturned, guarded}) {
            Asked.due("19 one alone", hall.many(3) + hall.many(5) + hall.many(6), 1);
            for (int which = 0; which < 2; which++) {
                int n = which;
                Asked.refused("19 to " + which, hall, STATE, () -> hall.order(n));
            }
            Asked.refusedOutside("19 the argument is named first", hall, ARGUMENT, 0, 1, n -> hall.order(n));
            hall.restart();
            Asked.due("19 behind a restart", hall.order(1), 0);
        }
    }

    private static void callsWithoutATop() {
        Rewritehall hall = Asked.hall(0, 1);
        for (int strategy = 0; strategy < 4; strategy++) {
            int n = strategy;
            Asked.refused("20 none by " + n, hall, STATE, () -> hall.step(n));
            Asked.refused("21 none by " + n, hall, STATE, () -> hall.end(n));
            Asked.refused("22 none by " + n, hall, STATE, () -> hall.steps(n));
        }
        Asked.refused("23 none", hall, STATE, () -> hall.redexes());
        Asked.push(hall, "b(a)", "x0");
        for (int strategy = 0; strategy < 4; strategy++) {
            Asked.due("20 no redex by " + strategy, hall.step(strategy), -1);
            Asked.due("21 no redex by " + strategy, hall.end(strategy), 0);
            Asked.due("22 no redex by " + strategy, hall.steps(strategy), 0);
        }
        Asked.due("23 no redex", hall.redexes() + " " + Asked.rows(hall, 1), "0 b(a) x0");
    }

    private static void strategiesAreFour() {
        Rewritehall empty = Asked.hall(0);
        Rewritehall broken = Full.sorting();
        Asked.push(broken, Full.sixty("c(b(a))"));
        for (Rewritehall hall : new Rewritehall[] {empty, broken}) {
            Asked.refusedOutside("20 no strategy, named first", hall, ARGUMENT, 0, 3, n -> hall.step(n));
            Asked.refusedOutside("21 no strategy, named first", hall, ARGUMENT, 0, 3, n -> hall.end(n));
            Asked.refusedOutside("22 no strategy, named first", hall, ARGUMENT, 0, 3, n -> hall.steps(n));
        }
    }

    /** d(x0) becomes c(x0,x0). */
    private static Rewritehall doubling() {
        Rewritehall hall = Asked.hall(0, 1, 2, 1);
        Asked.tell(hall, "d(x0)=c(x0,x0)");
        hall.complete();
        return hall;
    }

    private static void stepTakesSize40() {
        for (int strategy = 0; strategy < 4; strategy++) {
            int n = strategy;
            Rewritehall hall = doubling();
            Asked.push(hall, "b(d(" + Asked.nested("b", 18, "a") + "))");
            Asked.due("20 size 40 of the whole by " + n, hall.step(n) + " " + hall.ofTerm(0, 0), "1 40");
            Asked.push(hall, "b(b(d(" + Asked.nested("b", 18, "a") + ")))");
            Asked.refused("20 size 41 of the whole by " + n, hall, STATE, () -> hall.step(n));
            Asked.push(hall, "d(" + Asked.nested("b", 19, "a") + ")");
            Asked.refused("20 size 41 of the part by " + n, hall, STATE, () -> hall.step(n));
        }
    }

    private static void endsTakeSize40() {
        Rewritehall hall = doubling();
        Asked.push(hall, "b(b(d(" + Asked.nested("b", 18, "a") + ")))", "b(d(" + Asked.nested("b", 18, "a") + "))");
        for (int strategy = 0; strategy < 4; strategy++) {
            int n = strategy;
            Asked.due("22 size 40 by " + n, hall.steps(n), 1);
            hall.again(0);
            Asked.due("21 size 40 by " + n, hall.end(n) + " " + hall.ofTerm(0, 0), "1 40");
            hall.drop();
            hall.exchange();
            Asked.refused("22 size 41 by " + n, hall, STATE, () -> hall.steps(n));
            Asked.refused("21 size 41 by " + n, hall, STATE, () -> hall.end(n));
            hall.exchange();
        }
        hall.drop();
        Asked.due("23 a redex that comes to be too large", hall.redexes() + " " + hall.ofPlace(2, 4), "1 1");
    }

    private static void endsTake60Steps() {
        for (int strategy = 0; strategy < 4; strategy++) {
            int n = strategy;
            Rewritehall hall = Full.sorting();
            Asked.push(hall, Full.sixty("c(a)"));
            Asked.due("22 60 steps by " + n, hall.steps(n), 60);
            Asked.due("21 60 steps by " + n, hall.end(n) + " " + hall.text(0), "60 " + Full.sorted("c(a)"));
            Asked.push(hall, Full.sixty("c(b(a))"));
            Asked.refused("22 61 steps by " + n, hall, STATE, () -> hall.steps(n));
            Asked.refused("21 61 steps by " + n, hall, STATE, () -> hall.end(n));
            hall.step(n);
            Asked.due("21 60 behind the first of 61 by " + n, hall.end(n), 60);
        }
    }

    /** d(x0) becomes c(x0,x0), and that becomes a: the end is small, but not what comes on the way. */
    private static void endsTakeSize40OnTheWay() {
        Rewritehall hall = Asked.hall(0, 1, 2, 1);
        Asked.tell(hall, "d(x0)=c(x0,x0)", "c(b(x0),x1)=a");
        hall.finish(2);
        Asked.push(hall, "d(" + Asked.nested("b", 18, "a") + ")");
        Asked.due("22 size 39 on the way", hall.steps(0), 2);
        hall.apply(1);
        Asked.due("22 size 40 on the way", hall.steps(0), 2);
        hall.apply(1);
        Asked.refused("22 size 41 on the way", hall, STATE, () -> hall.steps(0));
        Asked.refused("21 size 41 on the way", hall, STATE, () -> hall.end(3));
    }

    /** d(x0) becomes a, if one and other have the same end. */
    private static Rewritehall guarded(Rewritehall hall, String left, String one, String other) {
        Asked.push(hall, left, "a", one, other);
        hall.condition();
        return hall;
    }

    private static void refusedByAll(String what, Rewritehall hall) {
        for (int strategy = 0; strategy < 4; strategy++) {
            int n = strategy;
            Asked.refused("20 " + what, hall, STATE, () -> hall.step(n));
            Asked.refused("21 " + what, hall, STATE, () -> hall.end(n));
            Asked.refused("22 " + what, hall, STATE, () -> hall.steps(n));
        }
        Asked.refused("23 " + what, hall, STATE, () -> hall.redexes());
        Asked.refused("13 " + what, hall, STATE, () -> hall.ofPlace(0, 4));
    }

    private static void onesTakeSize40() {
        Rewritehall hall = guarded(Asked.hall(0, 1, 2, 1), "d(x0)", "c(x0,c(a,x0))", "x0");
        Asked.push(hall, "d(" + Asked.nested("b", 17, "a") + ")");
        Asked.due("20 size 39 of one", hall.step(0), -1);
        Rewritehall even = guarded(Asked.hall(0, 1, 2, 1), "d(x0)", "b(c(x0,x0))", "x0");
        Asked.push(even, "d(" + Asked.nested("b", 18, "a") + ")");
        Asked.due("20 size 40 of one", even.step(0) + " " + even.redexes() + " " + even.ofPlace(0, 4), "-1 0 0");
        Asked.push(hall, "d(" + Asked.nested("b", 18, "a") + ")");
        refusedByAll("size 41 of one", hall);
    }

    private static void othersTakeSize40() {
        Rewritehall hall = guarded(Asked.hall(0, 1, 2, 1), "d(x0)", "x0", "c(x0,c(a,x0))");
        Asked.push(hall, "d(" + Asked.nested("b", 17, "a") + ")");
        Asked.due("20 size 39 of other", hall.step(0), -1);
        Rewritehall even = guarded(Asked.hall(0, 1, 2, 1), "d(x0)", "x0", "b(c(x0,x0))");
        Asked.push(even, "d(" + Asked.nested("b", 18, "a") + ")");
        Asked.due("20 size 40 of other", even.step(0) + " " + even.redexes() + " " + even.ofPlace(0, 4), "-1 0 0");
        Asked.push(hall, "d(" + Asked.nested("b", 18, "a") + ")");
        refusedByAll("size 41 of other", hall);
    }

    private static void onesTake60Steps() {
        Rewritehall hall = guarded(Full.sorting(), "e(x0)", Full.sixty("x0"), Full.sorted("a"));
        Asked.push(hall, "e(a)");
        Asked.due("23 60 steps of one", hall.redexes() + " " + hall.steps(0) + " " + hall.ofPlace(0, 4), "1 1 1");
        Asked.push(hall, "e(c(b(a)))");
        Asked.due("20 by the strategy 3 the last redex first", hall.ofPlace(1, 4), 1);
        refusedByThePlace0("61 steps of one", hall);
    }

    private static void othersTake60Steps() {
        Rewritehall hall = guarded(Full.sorting(), "e(x0)", Full.sorted("a"), Full.sixty("x0"));
        Asked.push(hall, "e(a)");
        Asked.due("23 60 steps of other", hall.redexes() + " " + hall.steps(0) + " " + hall.ofPlace(0, 4), "1 1 1");
        Asked.push(hall, "e(c(b(a)))");
        refusedByThePlace0("61 steps of other", hall);
    }

    private static void refusedByThePlace0(String what, Rewritehall hall) {
        refusedByAll(what, hall);
        hall.part(1);
        Asked.due("20 " + what + ", not within", hall.step(0), 0);
    }

    /** Each of 20 e asks for an end by 60 steps, the rest takes 40: both are ends by themselves. */
    private static void endsTake60StepsByThemselves() {
        Rewritehall hall = Full.sorting();
        Asked.push(hall, "e(x0)", "x0", Full.sixty("a"), Full.sorted("a"));
        hall.condition();
        String rest = Asked.nested("c", 4, Asked.nested("b", 10, "a"));
        Asked.push(hall, Asked.nested("e", 21, rest), Asked.nested("e", 20, rest));
        for (int strategy = 0; strategy < 4; strategy++) {
            int n = strategy;
            Asked.due("22 60 steps by " + n, hall.steps(n), 60);
        }
        hall.drop();
        for (int strategy = 0; strategy < 4; strategy++) {
            int n = strategy;
            Asked.refused("22 61 steps by " + n, hall, STATE, () -> hall.steps(n));
        }
        Asked.due("20 a step of these", hall.step(0), 0);
        Asked.due("21 the others", hall.end(0), 60);
    }

    /** One or other grows by a step to c(x0,x0), which then becomes a: that is kept up to size 40. */
    private static void endsOfConditionsTakeSize40OnTheWay() {
        for (int side = 0; side < 2; side++) {
            Rewritehall hall = Asked.hall(0, 1, 2, 1, 1);
            Asked.tell(hall, "d(x0)=c(x0,x0)");
            hall.complete();
            Asked.tell(hall, "c(b(x0),x1)=a");
            hall.complete();
            guarded(hall, "e(x0)", side == 0 ? "b(d(x0))" : "b(a)", side == 0 ? "b(a)" : "b(d(x0))");
            Asked.push(hall, "e(" + Asked.nested("b", 18, "a") + ")");
            Asked.due("23 size 40 behind a step of a condition", hall.redexes() + " " + hall.steps(0), "1 1");
            Asked.push(hall, "e(" + Asked.nested("b", 19, "a") + ")");
            refusedByAll("size 42 behind a step of a condition", hall);
            Rewritehall more = Asked.hall(0, 1, 2, 1, 1);
            Asked.tell(more, "d(x0)=c(x0,x0)");
            more.complete();
            guarded(more, "e(x0)", side == 0 ? "b(b(d(x0)))" : "b(a)", side == 0 ? "b(a)" : "b(b(d(x0)))");
            Asked.push(more, "e(" + Asked.nested("b", 18, "a") + ")");
            refusedByAll("size 41 behind a step of a condition", more);
        }
    }

    /** A conditional rule that has nothing to do with a term changes nothing of its bounds. */
    private static void stepsTakeSize40WithConditions() {
        for (int strategy = 0; strategy < 4; strategy++) {
            int n = strategy;
            Rewritehall hall = guarded(doubling(), "c(c(a,a),x0)", "x0", "a");
            Asked.push(hall, "b(d(" + Asked.nested("b", 18, "a") + "))");
            Asked.due("22 size 40 by " + n, hall.steps(n), 1);
            Asked.due("20 size 40 by " + n, hall.step(n) + " " + hall.ofTerm(0, 0), "1 40");
            String[] large = {"b(b(d(" + Asked.nested("b", 18, "a") + ")))", "d(" + Asked.nested("b", 19, "a") + ")",
                "d(" + Asked.nested("b", 38, "a") + ")"};
            for (String term : large) {
                Asked.push(hall, term);
                Asked.refused("20 too large by " + n, hall, STATE, () -> hall.step(n));
                Asked.refused("21 too large by " + n, hall, STATE, () -> hall.end(n));
                Asked.refused("22 too large by " + n, hall, STATE, () -> hall.steps(n));
                Asked.due("23 a redex all the same", hall.redexes(), 1);
            }
            Rewritehall even = guarded(Asked.hall(0, 1, 2, 1), "c(c(a,a),x0)", "x0", "a");
            Asked.tell(even, "d(x0)=b(c(x0,x0))");
            even.complete();
            Asked.push(even, "d(" + Asked.nested("b", 18, "a") + ")");
            Asked.due("20 size 40 of a part by " + n, even.step(n) + " " + even.ofTerm(0, 0), "0 40");
        }
    }

    /** All calls that tell whether d(b(a)) is a redex. */
    private static String looked(Rewritehall hall, int call) {
        switch (call) {
            case 0:
                return "" + hall.redexes();
            case 1:
                return "" + hall.ofPlace(0, 4);
            case 2:
                return "" + hall.steps(0);
            case 3:
                return "" + hall.steps(3);
            case 4:
                hall.again(0);
                return hall.end(0) + "" + hall.drop();
            case 5:
                hall.again(0);
                return hall.end(1) + "" + hall.drop();
            default:
                hall.again(0);
                return (hall.step(call - 6) + 1) + "" + hall.drop();
        }
    }

    /** d(x0) becomes x0, if c(x0) becomes a: that has to be seen by whichever call comes first behind a change. */
    private static void looksAreMadeAnew() {
        for (int call = 0; call < 10; call++) {
            Rewritehall hall = Asked.hall(0, 1, 1, 1);
            Asked.push(hall, "d(x0)", "x0", "c(x0)", "a");
            hall.condition();
            Asked.push(hall, "d(b(a))");
            String no = looked(hall, call);
            Asked.due("20 no redex, call " + call, no.charAt(0), '0');
            Asked.tell(hall, "c(b(x0))=x0");
            Asked.due("20 an equation changes nothing, call " + call, looked(hall, call), no);
            hall.complete();
            String yes = looked(hall, call);
            Asked.due("20 a redex by a rule, call " + call, yes.charAt(0), '1');
            hall.restart();
            Asked.due("20 no redex behind a restart, call " + call, looked(hall, call), no);
            Asked.push(hall, "c(b(x0))", "x0", "x0", "x0");
            hall.condition();
            Asked.due("20 no redex by a part of the condition, call " + call, looked(hall, call), no);
            Asked.push(hall, "d(x0)", "x0", "c(x0)", "a");
            hall.condition();
            Asked.due("20 a redex by conditional rules, call " + call, looked(hall, call), yes);
        }
    }

    /** d(x0) would ask for what is too large; that does not count where a use is ahead of it. */
    private static void conditionsAreLookedAtAsFarAsNeeded() {
        Rewritehall hall = guarded(Asked.hall(0, 1, 2, 1), "d(b(x0))", "a", "a");
        guarded(hall, "d(x0)", "c(x0,x0)", "a");
        String large = Asked.nested("b", 20, "a");
        Asked.push(hall, "d(" + large + ")");
        Asked.due("23 a conditional one is ahead of it", hall.redexes() + " " + hall.steps(0), "1 1");
        Rewritehall ruled = guarded(Asked.hall(0, 1, 2, 1), "d(x0)", "c(x0,x0)", "a");
        Asked.push(ruled, "d(" + large + ")");
        Asked.refused("23 nothing is ahead of it", ruled, STATE, () -> ruled.redexes());
        Asked.tell(ruled, "d(b(b(x0)))=a");
        ruled.complete();
        Asked.due("23 a rule is ahead of it", ruled.redexes() + " " + ruled.steps(0), "1 1");
        Rewritehall first = guarded(Asked.hall(0, 1, 2, 1), "d(x0)", "c(x0,x0)", "a");
        Asked.tell(first, "b(a)=a");
        first.complete();
        Asked.push(first, "c(b(a),d(" + Asked.nested("b", 20, "x0") + "))");
        Asked.due("20 by 0 the first redex is ahead of it", first.step(0), 1);
        Asked.push(first, "c(b(a),d(" + Asked.nested("b", 20, "x0") + "))");
        for (int strategy = 1; strategy < 4; strategy++) {
            int n = strategy;
            Asked.refused("20 by others all are looked at", first, STATE, () -> first.step(n));
        }
        Asked.refused("23 all are looked at", first, STATE, () -> first.redexes());
    }

    private static void redexesAreAllOrNone() {
        Rewritehall hall = doubling();
        Asked.push(hall, Asked.nested("d", 39, "a"));
        Asked.due("23 39 of 40", hall.redexes(), 39);
        Asked.due("13 the last but one", hall.ofPlace(38, 4) + " " + hall.ofPlace(39, 4), "1 0");
        Rewritehall all = Asked.hall(0, 1, 2, 0);
        Asked.tell(all, "d=a", "b(x0)=a");
        all.finish(2);
        Asked.push(all, Asked.nested("b", 39, "d"));
        Asked.due("23 40 of 40", all.redexes(), 40);
        Asked.push(all, "a");
        Asked.due("23 none of 1", all.redexes(), 0);
    }

    /** RULES, then UNTURNED ones, each forth, then back, then conditional ones: what comes tells which use it was. */
    private static void unturnedOnesComeInTheirOrder() {
        Rewritehall hall = Asked.hall(0, 1, 2, 0);
        Asked.push(hall, "c(d,x0)", "x0", "a", "a");
        hall.condition();
        Asked.push(hall, "c(d,a)");
        hall.step(0);
        Asked.due("3 the conditional one alone", hall.text(0), "a");
        Asked.tell(hall, "c(x0,b(x1))=c(x1,x0)");
        Asked.due("27 unturned", hall.complete(), 3);
        Asked.push(hall, "c(d,a)");
        hall.step(0);
        Asked.due("3 back, ahead of the conditional one", hall.text(0), "c(a,b(d))");
        Asked.push(hall, "c(d,b(a))");
        hall.step(0);
        Asked.due("3 forth, ahead of back", hall.text(0), "c(a,d)");
        Asked.tell(hall, "c(x0,x1)=c(x1,x0)");
        Asked.due("27 unturned", hall.complete(), 3);
        Asked.push(hall, "c(d,a)");
        hall.step(0);
        Asked.due("3 the first unturned one, back, ahead of the second one", hall.text(0), "c(a,b(d))");
        Asked.tell(hall, "c(d,b(x0))=b(x0)");
        Asked.due("27 a rule", hall.complete(), 1);
        Asked.push(hall, "c(d,b(a))");
        hall.step(0);
        Asked.due("3 the rule is ahead of all", hall.text(0), "b(a)");
    }

    /** Forth x2 would be new, back x1 would: nowhere a use, not even if the part has such a variable of its own. */
    private static void unturnedOnesBringNoNewVariables() {
        Rewritehall hall = Asked.hall(0, 1, 2, 1);
        Asked.tell(hall, "c(x0,x1)=c(b(x2),x0)");
        Asked.due("27 unturned", hall.complete(), 3);
        Asked.due("27 its variables", hall.row(5, 0), "c(x0,x1)=c(b(x2),x0)");
        for (String term : new String[] {"c(d(x2),a)", "c(b(x1),a)", "c(b(a),a)", "c(d(x1),x2)"}) {
            Asked.push(hall, term);
            Asked.due("3 no use at " + term, hall.redexes() + " " + hall.steps(0), "0 0");
        }
    }

    /** c(x0,x1) = c(x1,x0) is a use just where the part is greater: not if both are alike, nor if none is. */
    private static void unturnedOnesTakeWhatIsGreater() {
        Rewritehall hall = Asked.hall(0, 1, 2);
        Asked.tell(hall, "c(x0,x1)=c(x1,x0)");
        hall.complete();
        String[] terms = {"c(b(a),a)", "c(a,b(a))", "c(a,a)", "c(x0,x0)", "c(x1,x0)", "c(b(x0),x0)", "c(x0,b(x0))",
            "c(b(x0),b(x1))"};
        int[] dues = {1, 0, 0, 0, 0, 1, 0, 0};
        for (int k = 0; k < terms.length; k++) {
            Asked.push(hall, terms[k]);
            Asked.due("3 by paths " + terms[k], hall.redexes(), dues[k]);
            hall.drop();
        }
        hall.restart();
        hall.order(1);
        hall.complete();
        for (int k = 0; k < terms.length; k++) {
            Asked.push(hall, terms[k]);
            Asked.due("3 by weights " + terms[k], hall.redexes(), dues[k]);
            hall.drop();
        }
    }

    /** d(c(a)) becomes a by the strategy 0, and d(b) by all others. */
    private static void endsOfConditionsGoByTheStrategy0() {
        Rewritehall hall = Asked.hall(0, 0, 1, 1, 1);
        Asked.tell(hall, "d(c(x0))=a");
        hall.complete();
        Asked.tell(hall, "c(a)=b");
        hall.complete();
        Asked.push(hall, "e(x0)", "x0", "d(c(x0))", "a");
        hall.condition();
        Asked.push(hall, "e(x0)", "b", "a", "d(c(x0))");
        hall.condition();
        for (int strategy = 0; strategy < 4; strategy++) {
            Asked.push(hall, "d(c(a))");
            hall.end(strategy);
            Asked.due("21 by " + strategy, hall.text(0), strategy == 0 || strategy == 2 ? "a" : "d(b)");
            hall.drop();
            Asked.push(hall, "e(a)");
            Asked.due("23 one becomes a by 0", hall.redexes() + " " + hall.steps(strategy), "1 1");
            hall.end(strategy);
            Asked.due("21 the first of both", hall.text(0), "a");
        }
        hall.restart();
        hall.finish(2);
        Asked.push(hall, "e(x0)", "b", "a", "d(c(x0))");
        hall.condition();
        Asked.push(hall, "e(a)");
        Asked.due("23 other becomes a by 0", hall.redexes() + " " + hall.ofPlace(0, 4), "1 1");
    }
}
