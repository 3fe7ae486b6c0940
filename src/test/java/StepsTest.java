/** Promises 17 to 23: equations, conditional rules, the order, and steps by all strategies. */
public final class StepsTest {
    private static final Class<?> ARGUMENT = IllegalArgumentException.class;
    private static final Class<?> STATE = IllegalStateException.class;

    private StepsTest() {
    }

    public static void main(String[] args) {
        equation();
        fullEquations();
        condition();
        wrongConditions();
        order();
        wrongSteps();
        strategies();
        endsAndSteps();
        unturnedUses();
        sixtySteps();
        sizeOfSteps();
        conditionsHold();
        conditionsComeLast();
        boundsOfConditions();
        boundsThatAreNotReached();
        deepConditions();
        conditionsFarDown();
        conditionsFartherDown();
        muchLooking();
        moreLooking();
        manyTerms();
        sixtyStepsByKnownEnds();
        looksThatAreKeptApart();
        Asked.finish("StepsTest");
    }

    private static void equation() {
        Rewritehall hall = Asked.hall(0, 1, 2);
        Asked.refused("17 empty", hall, STATE, () -> hall.equation());
        Asked.push(hall, "a");
        Asked.refused("17 one", hall, STATE, () -> hall.equation());
        Asked.push(hall, "c(x3,x1)", "c(x4,x3)");
        Asked.due("17 first", hall.equation(), 0);
        Asked.push(hall, "b(a)");
        Asked.due("17 second", hall.equation(), 1);
        Asked.due("17 named", Asked.rows(hall, 2), "c(x0,x1)=c(x2,x0) a=b(a)");
        Asked.due("17 waits", Asked.rows(hall, 4), "a=b(a) c(x0,x1)=c(x2,x0)");
        Asked.due("17 ages", hall.many(10), 2);
        Asked.due("17 the stack", hall.many(1), 0);
    }

    private static void fullEquations() {
        Rewritehall hall = Asked.hall(0, 1);
        for (int k = 0; k < 10; k++) {
            Asked.push(hall, Asked.nested("b", 10 - k, "x0"), "a");
            Asked.due("17 equation", hall.equation(), k);
        }
        Asked.push(hall, "a", "a");
        Asked.refused("17 an eleventh", hall, STATE, () -> hall.equation());
        Asked.due("17 the smallest is the next", hall.row(4, 0), "b(x0)=a");
    }

    private static void condition() {
        Rewritehall hall = Asked.hall(0, 1, 2);
        Asked.push(hall, "x5", "c(x3,b(x2))", "c(x3,x2)", "x3", "b(x2)");
        Asked.due("18 first", hall.condition(), 0);
        Asked.due("18 named by the left side", Asked.rows(hall, 6), "c(x0,b(x1))>c(x0,x1)|x0=b(x1)");
        Asked.due("18 the stack", Asked.rows(hall, 1), "x5");
        for (int k = 1; k < 4; k++) {
            Asked.push(hall, "b(b(a))", "a", "b(a)", "a");
            Asked.due("18 next", hall.condition(), k);
        }
        Asked.push(hall, "b(b(a))", "a", "b(a)", "a");
        Asked.refused("18 a fifth", hall, STATE, () -> hall.condition());
        hall.drop();
        Asked.push(hall, "x0");
        Asked.refused("18 a fifth that is wrong", hall, STATE, () -> hall.condition());
    }

    private static void wrongConditions() {
        Rewritehall hall = Asked.hall(0, 1, 2);
        Asked.refused("18 empty", hall, STATE, () -> hall.condition());
        Asked.push(hall, "b(a)", "a", "a");
        Asked.refused("18 three", hall, STATE, () -> hall.condition());
        String[][] wrong = {{"x0", "a", "a", "a"}, {"b(x0)", "x1", "a", "a"}, {"b(x0)", "a", "x1", "a"},
            {"b(x0)", "a", "x0", "x1"}, {"b(x0)", "b(x0)", "x0", "x0"}, {"b(x0)", "x0", "b(x0)", "x0"},
            {"b(x0)", "x0", "x0", "b(b(x0))"}};
        for (String[] four : wrong) {
            Asked.push(hall, four);
            Asked.refused("18 " + String.join(" ", four), hall, ARGUMENT, () -> hall.condition());
            for (int k = 0; k < 4; k++) {
                hall.drop();
            }
        }
        Asked.push(hall, "b(x0)", "x0", "a", "x0");
        Asked.due("18 that is right", hall.condition(), 0);
    }

    private static void order() {
        Rewritehall hall = Asked.hall(0, 1, 2);
        Asked.refused("19 -1", hall, ARGUMENT, () -> hall.order(-1));
        Asked.refused("19 2", hall, ARGUMENT, () -> hall.order(2));
        Asked.due("19 at first", hall.order(1), 0);
        Asked.due("19 many", hall.many(7), 1);
        Asked.due("19 again", hall.order(1), 1);
        Asked.due("19 back", hall.order(0), 1);
        Asked.tell(hall, "b(x0)=x0");
        Asked.due("19 with equations", hall.order(0), 0);
        hall.complete();
        Asked.refused("19 with a rule", hall, STATE, () -> hall.order(0));
        Asked.refused("19 with a rule, and wrong", hall, ARGUMENT, () -> hall.order(2));
        hall.restart();
        Asked.due("19 without the rule", hall.order(1), 0);
        Rewritehall turned = Asked.hall(2);
        Asked.tell(turned, "a(x0,x1)=a(x1,x0)");
        Asked.due("19 unturned", turned.complete(), 3);
        Asked.refused("19 with an unturned one", turned, STATE, () -> turned.order(1));
        Rewritehall guarded = Asked.hall(0, 1);
        Asked.push(guarded, "b(x0)", "x0", "x0", "a");
        guarded.condition();
        Asked.refused("19 with a conditional one", guarded, STATE, () -> guarded.order(1));
        Rewritehall weighed = Asked.hall(0, 1, 2);
        Asked.tell(weighed, "c(x0,x0)=b(b(b(b(x0))))");
        weighed.order(1);
        weighed.complete();
        Asked.due("19 by weights", Asked.rows(weighed, 5), "c(x0,x0)=b(b(b(b(x0))))");
        weighed.restart();
        weighed.order(0);
        weighed.complete();
        Asked.due("19 by paths", Asked.rows(weighed, 3), "c(x0,x0)>b(b(b(b(x0))))");
    }

    private static void wrongSteps() {
        Rewritehall hall = Asked.hall(0, 1);
        Asked.refused("20 empty", hall, STATE, () -> hall.step(0));
        Asked.refused("21 empty", hall, STATE, () -> hall.end(3));
        Asked.refused("22 empty", hall, STATE, () -> hall.steps(3));
        Asked.refused("23 empty", hall, STATE, () -> hall.redexes());
        for (int strategy : new int[] {-1, 4}) {
            Asked.refused("20 " + strategy, hall, ARGUMENT, () -> hall.step(strategy));
            Asked.refused("21 " + strategy, hall, ARGUMENT, () -> hall.end(strategy));
            Asked.refused("22 " + strategy, hall, ARGUMENT, () -> hall.steps(strategy));
        }
        Asked.push(hall, "b(a)");
        Asked.due("20 no redex", hall.step(2), -1);
        Asked.due("21 no redex", hall.end(1), 0);
        Asked.due("22 no redex", hall.steps(0), 0);
        Asked.due("23 no redex", hall.redexes(), 0);
    }

    /** d(x0) > a: the redexes of the term are nested in two arguments. */
    private static void strategies() {
        Rewritehall hall = Asked.hall(0, 1, 2, 1);
        Asked.tell(hall, "d(x0)=b(x0)");
        hall.complete();
        String term = "c(d(c(a,d(d(a)))),d(b(d(a))))";
        int[] places = {1, 5, 7, 9};
        String[] behind = {"c(b(c(a,d(d(a)))),d(b(d(a))))", "c(d(c(a,d(b(a)))),d(b(d(a))))",
            "c(d(c(a,d(d(a)))),b(b(d(a))))", "c(d(c(a,d(d(a)))),d(b(b(a))))"};
        for (int strategy = 0; strategy < 4; strategy++) {
            Asked.push(hall, term);
            Asked.due("23 redexes", hall.redexes(), 5);
            Asked.due("20 strategy " + strategy, hall.step(strategy), places[strategy]);
            Asked.due("20 text " + strategy, hall.text(0), behind[strategy]);
            hall.drop();
        }
        Asked.push(hall, "d(a)");
        Asked.due("20 the place 0", hall.step(1), 0);
        Asked.due("20 and no more", hall.step(1), -1);
    }

    private static void endsAndSteps() {
        Rewritehall hall = Asked.hall(0, 1, 2, 1);
        Asked.tell(hall, "d(x0)=c(x0,x0)");
        hall.complete();
        int[] counts = {7, 3, 7, 3};
        for (int strategy = 0; strategy < 4; strategy++) {
            Asked.push(hall, "d(d(d(a)))");
            String before = Asked.state(hall);
            Asked.due("22 strategy " + strategy, hall.steps(strategy), counts[strategy]);
            Asked.due("22 nothing is changed", Asked.state(hall), before);
            Asked.due("21 strategy " + strategy, hall.end(strategy), counts[strategy]);
            Asked.due("21 text", hall.text(0), "c(c(c(a,a),c(a,a)),c(c(a,a),c(a,a)))");
        }
    }

    private static void unturnedUses() {
        Rewritehall hall = Asked.hall(0, 1, 2, 0);
        Asked.tell(hall, "c(x0,x1)=c(x1,x0)", "c(x0,x1)=c(b(x2),x0)", "b(a)=b(d)");
        Asked.due("3 unturned, a rule", hall.finish(12), 3);
        Asked.due("3 the rows", Asked.rows(hall, 5), "c(x0,x1)=c(x1,x0) c(x0,x1)=c(b(x2),x0)");
        Asked.due("3 the rule", Asked.rows(hall, 3), "b(d)>b(a)");
        Asked.push(hall, "c(d,a)");
        Asked.due("20 a greater part", hall.step(0), 0);
        Asked.due("20 turned", hall.text(0), "c(a,d)");
        Asked.due("20 nothing greater", hall.step(0), -1);
        hall.drop();
        Asked.push(hall, "c(x1,x0)");
        Asked.due("20 variables are not greater", hall.redexes(), 0);
        hall.drop();
        Asked.push(hall, "c(b(d),x0)");
        Asked.due("20 rules are ahead, but not at other places", hall.step(0), 1);
        Asked.due("20 no use with a new variable", hall.end(0), 0);
        Rewritehall back = Asked.hall(0, 1, 2, 0);
        Asked.tell(back, "c(x0,b(x1))=c(x1,x0)");
        Asked.due("3 unturned", back.complete(), 3);
        Asked.push(back, "c(a,d)");
        Asked.due("20 neither forth nor back", back.step(0), -1);
        Asked.push(back, "c(d,a)");
        Asked.due("20 back", back.step(0), 0);
        Asked.due("20 back, text", back.text(0), "c(a,b(d))");
        Asked.push(back, "c(d,b(a))");
        Asked.due("20 forth", back.step(0), 0);
        Asked.due("20 forth, text", back.text(0), "c(a,d)");
        Asked.push(back, "c(c(d,d),a)");
        Asked.due("20 back at 0", back.step(0), 0);
        Asked.due("20 back, text", back.text(0), "c(a,b(c(d,d)))");
    }

    /** d(x0) > b(x0): a term with so many d has an end by so many steps; c(x,y) > b(b(..)) has one more. */
    private static void sixtySteps() {
        Rewritehall hall = Asked.hall(0, 1, 2, 1);
        Asked.tell(hall, "d(x0)=b(b(x0))", "b(b(b(b(x0))))=b(b(x0))");
        hall.finish(12);
        Asked.due("3 the rules", Asked.rows(hall, 3), "d(x0)>b(b(x0)) b(b(b(b(x0))))>b(b(x0))");
        Asked.push(hall, Asked.nested("d", 30, "b(a)"));
        Asked.due("21 59 steps", hall.steps(3), 59);
        hall.drop();
        Asked.push(hall, Asked.nested("d", 30, "b(b(a))"));
        Asked.due("21 60 steps", hall.end(3), 60);
        Asked.due("21 60 steps, text", hall.text(0), "b(b(a))");
        hall.drop();
        Asked.push(hall, Asked.nested("d", 31, "a"));
        Asked.due("21 61 steps", hall.redexes(), 31);
        Asked.refused("21 61 steps", hall, STATE, () -> hall.end(3));
        Asked.refused("22 61 steps", hall, STATE, () -> hall.steps(1));
        Asked.refused("34 61 steps", hall, STATE, () -> hall.same());
        Asked.due("20 a step of these", hall.step(3), 30);
    }

    private static void sizeOfSteps() {
        Rewritehall hall = Asked.hall(0, 1, 2, 1);
        Asked.tell(hall, "d(x0)=c(x0,x0)");
        hall.complete();
        Asked.push(hall, "d(" + Asked.nested("b", 18, "a") + ")");
        Asked.due("20 size 39", hall.steps(0), 1);
        hall.drop();
        Asked.push(hall, "b(d(" + Asked.nested("b", 18, "a") + "))");
        Asked.due("20 size 40", hall.steps(0), 1);
        hall.drop();
        Asked.push(hall, "d(" + Asked.nested("b", 19, "a") + ")");
        Asked.refused("20 size 41", hall, STATE, () -> hall.step(0));
        Asked.refused("21 size 41", hall, STATE, () -> hall.end(0));
        Asked.due("23 it is a redex nevertheless", hall.redexes(), 1);
        Asked.due("13 it is a redex nevertheless", hall.ofPlace(0, 4), 1);
    }

    /** d(x0) > x0, if x0 becomes a: b(b(x0)) > x0 is the rule for that. */
    private static void conditionsHold() {
        Rewritehall hall = Asked.hall(0, 1, 2, 1);
        Asked.tell(hall, "b(b(x0))=x0");
        hall.complete();
        Asked.push(hall, "d(x0)", "b(x0)", "x0", "a");
        hall.condition();
        Asked.push(hall, "d(b(b(a)))");
        Asked.due("23 two redexes", hall.redexes(), 2);
        Asked.due("20 the condition holds", hall.step(0), 0);
        Asked.due("20 text", hall.text(0), "b(b(b(a)))");
        hall.drop();
        Asked.push(hall, "d(b(a))");
        Asked.due("20 it does not hold", hall.step(0), -1);
        hall.drop();
        Asked.push(hall, "d(d(b(a)))", "d(d(a))");
        Asked.due("20 the outer one does not hold", hall.redexes(), 1);
        Asked.due("21 inside first", hall.end(0), 1);
        Asked.due("21 text", hall.text(0), "d(b(a))");
        Asked.push(hall, "d(a)", "b(a)");
        Asked.due("34 plain is without conditional ones", hall.same(), false);
    }

    private static void conditionsComeLast() {
        Rewritehall hall = Asked.hall(0, 1, 2, 1);
        Asked.push(hall, "d(x0)", "x0", "x0", "x0", "d(x0)", "b(x0)", "x0", "x0");
        hall.condition();
        Asked.due("18 its place", hall.many(6), 1);
        hall.condition();
        Asked.push(hall, "d(a)");
        hall.step(0);
        Asked.due("3 the first one in the row", hall.text(0), "b(a)");
        Asked.tell(hall, "d(x0)=c(x0,x0)");
        hall.complete();
        Asked.push(hall, "d(a)");
        hall.step(0);
        Asked.due("3 rules are ahead", hall.text(0), "c(a,a)");
    }

    private static void boundsOfConditions() {
        Rewritehall hall = Asked.hall(0, 1, 2, 1);
        Asked.push(hall, "d(x0)", "a", "c(x0,x0)", "a");
        hall.condition();
        Asked.push(hall, "d(" + Asked.nested("b", 18, "a") + ")");
        Asked.due("20 size 39 of one", hall.step(0), -1);
        hall.drop();
        Asked.push(hall, "d(" + Asked.nested("b", 19, "a") + ")");
        Asked.refused("20 size 41 of one", hall, STATE, () -> hall.step(0));
        Asked.refused("23 size 41 of one", hall, STATE, () -> hall.redexes());
        Asked.refused("13 size 41 of one", hall, STATE, () -> hall.ofPlace(0, 4));
        Asked.due("13 not asked for", hall.ofPlace(0, 2), 21);
        Asked.due("13 at another place", hall.ofPlace(1, 4), 0);
        Rewritehall steps = Asked.hall(0, 1, 1, 1);
        Asked.tell(steps, "c(x0)=b(b(x0))", "b(b(b(b(x0))))=b(b(x0))");
        steps.finish(12);
        Asked.push(steps, "d(x0)", "a", "x0", "a");
        steps.condition();
        Asked.push(steps, "d(" + Asked.nested("c", 30, "b(b(a))") + ")");
        Asked.due("13 61 steps at most by the place 0", steps.ofPlace(1, 4), 1);
        Asked.due("13 as many as may be", steps.ofPlace(0, 4), 0);
        steps.drop();
        Asked.push(steps, "d(" + Asked.nested("c", 35, "a") + ")");
        Asked.refused("13 too many steps", steps, STATE, () -> steps.ofPlace(0, 4));
        Asked.refused("20 too many steps", steps, STATE, () -> steps.step(0));
        Asked.due("13 inside it is a redex", steps.ofPlace(1, 4), 1);
    }

    /** By the strategy 0 places behind the first redex are not looked at, by others they are. */
    private static void boundsThatAreNotReached() {
        Rewritehall hall = Asked.hall(0, 1, 2, 1);
        Asked.push(hall, "d(x0)", "a", "c(x0,x0)", "a");
        hall.condition();
        Asked.tell(hall, "b(b(a))=a");
        hall.complete();
        Asked.push(hall, "c(b(b(a)),d(" + Asked.nested("b", 24, "x0") + "))");
        Asked.refused("20 all are looked at", hall, STATE, () -> hall.step(1));
        Asked.refused("20 all are looked at", hall, STATE, () -> hall.step(2));
        Asked.refused("20 all are looked at", hall, STATE, () -> hall.step(3));
        Asked.refused("21 later it is looked at", hall, STATE, () -> hall.end(0));
        Asked.due("20 up to the first one", hall.step(0), 1);
    }

    /** d(x0) > a, if x0 becomes a: each of so many d asks for all below it. */
    private static void deepConditions() {
        Rewritehall hall = Asked.hall(0, 1, 2, 1);
        Asked.push(hall, "d(x0)", "a", "x0", "a");
        hall.condition();
        Asked.push(hall, Asked.nested("d", 39, "a"));
        Asked.due("23 all hold", hall.redexes(), 39);
        Asked.due("22 at once", hall.steps(0), 1);
        Asked.due("22 from within", hall.steps(3), 39);
        hall.drop();
        Asked.push(hall, Asked.nested("d", 39, "x0"));
        Asked.due("23 none holds", hall.redexes(), 0);
    }

    /** Tells symbol(x0) > a, if one becomes a. */
    private static void toldIf(Rewritehall hall, String symbol, String one) {
        Asked.push(hall, symbol + "(x0)", "a", one, "a");
        hall.condition();
    }

    /** Each e asks for a d, that for a c, that for a b, that for what lies inside: 152 conditions in one another. */
    private static void conditionsFarDown() {
        Rewritehall hall = Asked.hall(0, 1, 1, 1, 1);
        toldIf(hall, "e", "d(x0)");
        toldIf(hall, "d", "c(x0)");
        toldIf(hall, "c", "b(x0)");
        toldIf(hall, "b", "x0");
        Asked.push(hall, Asked.nested("e", 38, "a"));
        Asked.due("23 all of them", hall.redexes(), 38);
        Asked.due("13 the first one", hall.ofPlace(0, 4), 1);
        Asked.due("13 not the last sign", hall.ofPlace(38, 4), 0);
        int[] steps = {1, 38, 1, 38};
        for (int strategy = 0; strategy < 4; strategy++) {
            Asked.due("22 by " + strategy, hall.steps(strategy), steps[strategy]);
        }
        Asked.due("20 the last one", hall.step(3), 37);
        Asked.due("21 at once", hall.end(0), 1);
        Asked.due("21 text", hall.text(0), "a");
        hall.drop();
        Asked.push(hall, Asked.nested("e", 38, "x0"));
        Asked.due("23 none", hall.redexes(), 0);
    }

    /** As above, but each asks for eight of the next ones: some 11000 conditions in one another. */
    private static void conditionsFartherDown() {
        Rewritehall hall = Asked.hall(0, 1, 1, 1, 1);
        toldIf(hall, "e", Asked.nested("d", 8, "x0"));
        toldIf(hall, "d", Asked.nested("c", 8, "x0"));
        toldIf(hall, "c", Asked.nested("b", 8, "x0"));
        toldIf(hall, "b", "x0");
        Asked.push(hall, Asked.nested("e", 17, "a"));
        Asked.due("22 at once", hall.steps(0), 1);
        Asked.due("23 all of them", hall.redexes(), 17);
        Asked.push(hall, Asked.nested("e", 17, "x0"));
        Asked.due("22 no step", hall.steps(0), 0);
        Asked.push(hall, Asked.nested("e", 19, "a"));
        Asked.refused("21 size 41 far down", hall, STATE, () -> hall.end(0));
        Asked.refused("23 size 41 far down", hall, STATE, () -> hall.redexes());
    }

    /** c moves behind b, and each b asks for what it is with c in its place: all rows of b and c are looked at. */
    private static void muchLooking() {
        Rewritehall hall = new Rewritehall();
        hall.symbol(0, 1);
        hall.symbol(1, 2);
        hall.symbol(1, 1);
        hall.order(1);
        Asked.tell(hall, "c(b(x0))=b(c(x0))");
        hall.complete();
        Asked.due("27 the rule", hall.row(3, 0), "c(b(x0))>b(c(x0))");
        toldIf(hall, "b", "c(x0)");
        Asked.due("18 the conditional one", hall.row(6, 0), "b(x0)>a|c(x0)=a");
        Asked.push(hall, Asked.nested("b", 14, "a"));
        for (int strategy = 0; strategy < 4; strategy++) {
            Asked.due("22 no step by " + strategy, hall.steps(strategy), 0);
            Asked.due("20 no step by " + strategy, hall.step(strategy), -1);
        }
        Asked.due("23 no redex", hall.redexes(), 0);
        Asked.due("13 no redex", hall.ofPlace(0, 4), 0);
        hall.apply(1);
        Asked.due("22 one more", hall.steps(0), 0);
        hall.apply(1);
        Asked.refused("22 61 steps of one of them", hall, STATE, () -> hall.steps(0));
        hall.drop();
        Asked.push(hall, Asked.nested("c", 7, Asked.nested("b", 7, "a")));
        Asked.due("22 all c behind all b", hall.end(3), 49);
        Asked.due("21 text", hall.text(0), Asked.nested("b", 7, Asked.nested("c", 7, "a")));
    }

    /** As above with three letters. */
    private static void moreLooking() {
        Rewritehall hall = new Rewritehall();
        for (int k = 0; k < 4; k++) {
            hall.symbol(k == 0 ? 0 : 1, k == 0 ? 1 : 4 - k);
        }
        hall.order(1);
        Asked.tell(hall, "c(b(x0))=b(c(x0))", "d(b(x0))=b(d(x0))", "d(c(x0))=c(d(x0))");
        hall.finish(12);
        toldIf(hall, "b", "c(x0)");
        toldIf(hall, "c", "d(x0)");
        Asked.push(hall, Asked.nested("b", 11, "a"));
        Asked.due("22 no step", hall.steps(0), 0);
        Asked.due("23 no redex", hall.redexes(), 0);
    }

    /** All rows of three letters up to so many are looked at, and no condition but the last one holds. */
    private static void manyTerms() {
        Rewritehall hall = Asked.hall(0, 1, 1, 1, 2);
        Asked.push(hall, "e(d(x0),x1)", "a", "e(x0,b(x1))", "e(x0,c(x1))");
        hall.condition();
        Asked.push(hall, "e(d(x0),x1)", "a", "e(x0,d(x1))", "a");
        hall.condition();
        Asked.push(hall, "e(" + Asked.nested("d", 10, "a") + ",a)");
        Asked.due("23 none", hall.redexes(), 0);
        Asked.due("20 no step", hall.step(2), -1);
        Asked.push(hall, "e(b(x0),x1)", "e(x0,x1)", "x0", "x0");
        hall.condition();
        Asked.due("23 none of b", hall.redexes(), 0);
        hall.drop();
        Asked.push(hall, "e(" + Asked.nested("d", 9, "b(x0)") + ",x1)");
        Asked.due("23 the last b", hall.redexes(), 0);
        Asked.push(hall, "e(" + Asked.nested("b", 9, "d(x0)") + ",x1)");
        Asked.due("22 all b are gone", hall.end(0), 9);
        Asked.due("21 what is left", hall.text(0), "e(d(x0),x1)");
    }

    /** What takes 56 steps is noted; what comes to it by seven others takes 63. */
    private static void sixtyStepsByKnownEnds() {
        Rewritehall hall = Asked.hall(0, 1, 1, 2);
        Asked.tell(hall, "c(b(x0))=b(c(x0))");
        Asked.due("27 c moves behind b", hall.complete(), 1);
        Asked.push(hall, "d(x0,x1)", "a", "b(x0)", "c(x1)");
        hall.condition();
        Asked.push(hall, "d(" + sorted(7, 8) + "," + sorted(6, 9) + ")");
        Asked.refused("23 63 steps", hall, STATE, () -> hall.redexes());
        Asked.refused("22 63 steps", hall, STATE, () -> hall.steps(0));
        Asked.push(hall, "d(" + sorted(6, 9) + "," + sorted(5, 10) + ")");
        Asked.due("23 60 steps", hall.redexes(), 3);
        Asked.due("21 at once", hall.end(0), 1);
        Asked.push(hall, "d(" + sorted(6, 9) + "," + sorted(5, 9) + ")");
        Asked.due("23 not alike", hall.redexes(), 2);
    }

    /** So many c with so many b inside. */
    private static String sorted(int c, int b) {
        return Asked.nested("c", c, Asked.nested("b", b, "a"));
    }

    /** What was found by some rules is not taken for found by others. */
    private static void looksThatAreKeptApart() {
        Rewritehall hall = Asked.hall(0, 1, 1, 1);
        toldIf(hall, "d", "c(x0)");
        Asked.push(hall, "d(b(a))");
        Asked.due("23 c(b(a)) is no a", hall.redexes(), 0);
        toldIf(hall, "c", "x0");
        Asked.due("23 b(a) is no a", hall.redexes(), 0);
        Asked.tell(hall, "b(a)=a");
        hall.complete();
        Asked.due("23 now it is", hall.redexes(), 2);
        Asked.due("22 at once", hall.steps(0), 1);
        hall.restart();
        Asked.due("23 no more", hall.redexes(), 0);
    }
}
