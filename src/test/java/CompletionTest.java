/** Promises 24 to 33: overlaps, steps of completion, what waits, examples, and what is told of rows. */
public final class CompletionTest {
    private static final Class<?> ARGUMENT = IllegalArgumentException.class;
    private static final Class<?> STATE = IllegalStateException.class;
    private static final Class<?> INDEX = IndexOutOfBoundsException.class;

    private CompletionTest() {
    }

    public static void main(String[] args) {
        overlapsOfOneRule();
        overlapsOfTwoRules();
        wrongOverlaps();
        boundsOfOverlaps();
        missing();
        boundsOfMissing();
        complete();
        newRulesTakeOldOnesOut();
        rightSidesBecomeEnds();
        overlapsWait();
        refusedForUnturned();
        refusedForRules();
        refusedForWaiting();
        refusedForSteps();
        refusedForSize();
        refusedForPeaks();
        finish();
        restart();
        examples();
        many();
        row();
        ofRule();
        chainsOfRules();
        Asked.finish("CompletionTest");
    }

    private static Rewritehall completed(int[] arities, String... equations) {
        Rewritehall hall = Asked.hall(arities);
        Asked.tell(hall, equations);
        for (int k = 0; k < equations.length; k++) {
            hall.complete();
        }
        return hall;
    }

    /** A rule overlaps itself at all places but 0 that are no variables. */
    private static void overlapsOfOneRule() {
        Asked.due("24 none", new Rewritehall().overlaps(), 0);
        Rewritehall hall = completed(new int[] {2}, "a(a(x0,x1),x2)=a(x0,a(x1,x2))");
        Asked.due("24 one", hall.overlaps(), 1);
        String[] texts = {"a(a(a(x0,x1),x2),x3)", "a(a(x0,a(x1,x2)),x3)", "a(a(x0,x1),a(x2,x3))",
            "a(x0,a(x1,a(x2,x3)))", "a(x0,a(x1,a(x2,x3)))"};
        for (int what = 0; what < 5; what++) {
            Asked.due("25 " + what, hall.overlap(0, what), texts[what]);
        }
        Asked.due("26 all meet", hall.missing(), -1);
    }

    /** b(x) > a and c(b(x),b(y)) > x: the first one twice into the second one; nothing else. */
    private static void overlapsOfTwoRules() {
        Rewritehall hall = Asked.hall(0, 1, 2, 1);
        Asked.tell(hall, "d(b(x0))=b(x0)", "b(d(x1))=x1");
        Asked.due("27 exchanged or not", hall.complete(), 1);
        Asked.due("27 the smallest one is the first", Asked.rows(hall, 3), "b(d(x0))>x0");
        Asked.due("27 the second one", hall.complete(), 1);
        Asked.due("27 rules", Asked.rows(hall, 3), "b(d(x0))>x0 d(b(x0))>b(x0)");
        Asked.due("27 what waits", Asked.rows(hall, 4), "d(x0)=b(d(x0)) b(b(x0))=b(x0)");
        Asked.due("24 of two rules", hall.overlaps(), 2);
        Asked.due("25 first into second", hall.overlap(0, 0), "d(b(d(x0)))");
        Asked.due("25 left", hall.overlap(0, 1), "d(x0)");
        Asked.due("25 right", hall.overlap(0, 2), "b(d(x0))");
        Asked.due("25 end of right", hall.overlap(0, 4), "x0");
        Asked.due("25 second into first", hall.overlap(1, 0), "b(d(b(x0)))");
        Asked.due("25 left", hall.overlap(1, 1), "b(b(x0))");
        Asked.due("25 right", hall.overlap(1, 2), "b(x0)");
        Asked.due("26 the first one", hall.missing(), 0);
        Rewritehall roots = completed(new int[] {0, 1, 2, 0}, "c(b(x0),x1)=x0", "c(x0,b(x1))=x1");
        Asked.due("27 rules", Asked.rows(roots, 3), "c(b(x0),x1)>x0 c(x0,b(x1))>x1");
        Asked.due("24 at 0 once", roots.overlaps(), 1);
        Asked.due("25 named as in the peak", roots.overlap(0, 0) + " " + roots.overlap(0, 1) + " "
            + roots.overlap(0, 2), "c(b(x0),b(x1)) x0 x1");
        Asked.due("26 variables are not alike", roots.missing(), 0);
        Asked.due("27 unturned", roots.complete(), 3);
        Asked.due("27 named anew", Asked.rows(roots, 5), "x0=x1");
    }

    private static void wrongOverlaps() {
        Rewritehall hall = completed(new int[] {2}, "a(a(x0,x1),x2)=a(x0,a(x1,x2))");
        Asked.refused("25 what -1", hall, ARGUMENT, () -> hall.overlap(0, -1));
        Asked.refused("25 what 5", hall, ARGUMENT, () -> hall.overlap(7, 5));
        Asked.refused("25 -1", hall, INDEX, () -> hall.overlap(-1, 0));
        Asked.refused("25 behind all", hall, INDEX, () -> hall.overlap(1, 4));
    }

    /** The rule b(c(..a..)) > c with a large left side meets itself in a peak that is too large. */
    private static void boundsOfOverlaps() {
        Rewritehall hall = Asked.hall(0, 1, 2, 1);
        String large = "b(" + Asked.nested("d", 18, "b(x0)") + ")";
        Asked.push(hall, large, "x0");
        hall.equation();
        Asked.due("27 peak of size 40", hall.complete(), 1);
        Asked.due("24 one", hall.overlaps(), 1);
        Asked.due("25 left", hall.overlap(0, 1), "b(" + Asked.nested("d", 18, "x0") + ")");
        Asked.due("25 right", hall.overlap(0, 2), Asked.nested("d", 18, "b(x0)"));
        Rewritehall two = Asked.hall(0, 1, 2, 1);
        Asked.push(two, "b(" + Asked.nested("d", 19, "b(x0)") + ")", "x0");
        two.equation();
        Asked.refused("27 peak of size 42", two, STATE, () -> two.complete());
        Asked.due("28 none was made", two.finish(12), 0);
    }

    private static void missing() {
        Rewritehall hall = new Rewritehall();
        Asked.due("26 without rules", hall.missing(), -1);
        hall.example(0, true);
        hall.finish(12);
        Asked.due("26 groups", hall.missing(), -1);
        hall.restart();
        hall.complete();
        hall.complete();
        Asked.due("26 the rules", Asked.rows(hall, 3), "c(a)>a b(a,x0)>x0");
    }

    /** No bound counts behind the first one whose ends are not alike; but one ahead of it does. */
    private static void boundsOfMissing() {
        Rewritehall hall = completed(new int[] {1, 1}, "a(a(a(b(x0))))=a(b(a(x0)))");
        hall.complete();
        hall.complete();
        Asked.due("24 made", hall.overlaps() > 5, true);
        Asked.refused("25 a bound of the end of the sixth", hall, STATE, () -> hall.overlap(5, 3) + hall.overlap(5, 4));
        Asked.due("26 the third", hall.missing(), 2);
        Rewritehall ahead = completed(new int[] {1, 1}, "b(a(a(x0)))=a(b(x0))", "b(b(b(x0)))=x0");
        Asked.due("28 ten steps in all", ahead.finish(8), 8);
        Asked.due("24 made", ahead.overlaps() > 2, true);
        Asked.refused("26 a bound ahead", ahead, STATE, () -> ahead.missing());
    }

    private static void complete() {
        Rewritehall hall = Asked.hall(0, 1, 2, 1);
        Asked.due("27 nothing waits", hall.complete(), -1);
        Asked.due("27 that is no step", hall.many(9), 0);
        Asked.tell(hall, "b(a)=d(a)", "c(x0,x1)=c(x1,x0)", "b(b(a))=b(d(a))", "c(x0,a)=b(x0)");
        Asked.due("27 what waits", Asked.rows(hall, 4),
            "b(a)=d(a) c(x0,a)=b(x0) c(x0,x1)=c(x1,x0) b(b(a))=b(d(a))");
        Asked.due("27 exchanged", hall.complete(), 2);
        Asked.due("27 the rule", Asked.rows(hall, 3), "d(a)>b(a)");
        Asked.due("27 as it stands", hall.complete(), 1);
        Asked.due("27 the rules", Asked.rows(hall, 3), "d(a)>b(a) c(x0,a)>b(x0)");
        Asked.due("27 unturned", hall.complete(), 3);
        Asked.due("27 dropped", hall.complete(), 0);
        Asked.due("27 counts", hall.many(9) + " " + hall.many(8) + " " + hall.many(10), "4 1 4");
        Asked.due("27 nothing waits any more", hall.complete(), -1);
    }

    private static void newRulesTakeOldOnesOut() {
        Rewritehall hall = Asked.hall(0, 1, 2, 1);
        Asked.tell(hall, "d(d(b(a)))=a", "b(b(b(b(x0))))=x0", "d(b(x0))=b(b(b(b(b(b(x0))))))");
        hall.finish(2);
        Asked.due("27 two rules", Asked.rows(hall, 3), "d(d(b(a)))>a b(b(b(b(x0))))>x0");
        int age = hall.many(10);
        Asked.due("27 a third one", hall.many(4) > 0, true);
        while (hall.many(3) > 0 && hall.row(3, 0).equals("d(d(b(a)))>a") && hall.complete() >= 0) {
            Asked.due("27 steps are counted", hall.many(9) > 2, true);
        }
        Asked.due("27 taken out", Asked.rows(hall, 3).contains("d(d(b(a)))>a"), false);
        Asked.due("27 it waits with a new age", hall.many(10) > age, true);
        Asked.due("27 named", Asked.rows(hall, 4).contains("d(d(b(a)))=a"), true);
    }

    private static void rightSidesBecomeEnds() {
        Rewritehall hall = Asked.hall(0, 1, 2, 1);
        Asked.tell(hall, "d(x0)=b(b(x0))", "b(b(b(x0)))=b(b(x0))", "c(x0,x1)=d(d(d(d(x0))))");
        hall.complete();
        Asked.due("27 first rule", Asked.rows(hall, 3), "d(x0)>b(b(x0))");
        hall.complete();
        hall.complete();
        Asked.due("27 rules", Asked.rows(hall, 3), "d(x0)>b(b(x0)) b(b(b(x0)))>b(b(x0)) c(x0,x1)>b(b(x0))");
        Rewritehall right = Asked.hall(0, 0, 0, 1);
        Asked.tell(right, "d(x0)=c", "c=b", "b=a");
        right.finish(1);
        Asked.due("27 the smallest first", Asked.rows(right, 3), "c>b");
        right.finish(1);
        Asked.due("27 its right side became its end", Asked.rows(right, 3), "c>a b>a");
    }

    private static void overlapsWait() {
        Rewritehall hall = Asked.hall(0, 1, 2, 0);
        Asked.tell(hall, "c(b(x0),x1)=x1", "b(d)=a");
        hall.complete();
        Asked.due("27 nothing to meet", hall.many(4), 1);
        hall.complete();
        Asked.due("27 rules", Asked.rows(hall, 3), "b(d)>a c(b(x0),x1)>x1");
        Asked.due("27 the overlap waits", Asked.rows(hall, 4), "c(a,x0)=x0");
        Asked.due("27 its age", hall.many(10), 3);
        Rewritehall itself = Asked.hall(0, 1);
        Asked.tell(itself, "b(b(b(x0)))=x0");
        itself.complete();
        Asked.due("27 alike ones do not wait", itself.many(4) + " " + itself.overlaps(), "0 2");
    }

    private static void refusedForUnturned() {
        Rewritehall hall = Asked.hall(2, 1, 0);
        for (int k = 0; k < 7; k++) {
            String b = Asked.nested("b", k, "x0");
            Asked.tell(hall, "a(" + b + ",x1)=a(x1," + b + ")");
        }
        for (int k = 0; k < 6; k++) {
            Asked.due("27 unturned", hall.complete(), 3);
        }
        Asked.due("27 six of them", hall.many(5), 6);
        Asked.refused("27 a seventh", hall, STATE, () -> hall.complete());
        Asked.due("28 and no other", hall.finish(12), 0);
        Asked.push(hall, "a(x0,x1)", "a(x0,x1)");
        hall.equation();
        Asked.due("27 behind a smaller one", hall.complete(), 0);
    }

    private static void refusedForRules() {
        Rewritehall hall = Asked.hall(1, 1, 1);
        Asked.tell(hall, "b(a(a(x0)))=x0", "c(b(x0))=b(c(x0))");
        Asked.due("28 twelve steps", hall.finish(12), 12);
        Asked.due("28 two more", hall.finish(12), 2);
        Asked.due("27 as many rules as may be", hall.many(3), 14);
        Asked.refused("27 a fifteenth", hall, STATE, () -> hall.complete());
        Asked.due("27 many wait", hall.many(4) > 0, true);
        Asked.push(hall, "a(x0)", "a(x0)");
        hall.equation();
        Asked.due("27 a smaller one is taken", hall.complete(), 0);
        Asked.refused("27 then the same again", hall, STATE, () -> hall.complete());
    }

    private static void refusedForWaiting() {
        Rewritehall hall = Asked.hall(1, 1);
        Asked.tell(hall, "b(b(a(b(x0))))=b(a(b(a(x0))))");
        Asked.due("28 eleven steps", hall.finish(11), 11);
        Asked.due("27 many wait", hall.many(4), 116);
        Asked.refused("27 too many would wait", hall, STATE, () -> hall.complete());
        Asked.due("28 refused again", hall.finish(12), 0);
        Rewritehall full = Asked.hall(1, 1);
        Asked.tell(full, "b(b(a(a(b(b(b(a(b(a(b(x0)))))))))))=b(b(a(x0)))");
        Asked.due("28 twelve steps", full.finish(12), 12);
        full.complete();
        Asked.due("27 as many as may wait", full.many(4), 120);
        Asked.push(full, "a(x0)", "x0");
        Asked.refused("17 no room for one more", full, STATE, () -> full.equation());
    }

    private static void refusedForSteps() {
        Rewritehall hall = Asked.hall(0, 1, 1, 1);
        Asked.tell(hall, "d(x0)=b(b(x0))", "b(b(b(b(x0))))=b(b(x0))");
        hall.finish(12);
        Asked.push(hall, Asked.nested("d", 30, "b(b(a))"), "a");
        hall.equation();
        Asked.due("27 60 steps", hall.complete(), 1);
        Asked.push(hall, "a", Asked.nested("d", 31, "x0"));
        hall.equation();
        Asked.refused("27 61 steps", hall, STATE, () -> hall.complete());
        Asked.due("27 it still waits", hall.many(4) > 0, true);
        hall.restart();
        Asked.due("29 all waits anew", hall.many(4), 4);
    }

    private static void refusedForSize() {
        Rewritehall hall = Asked.hall(0, 1, 2, 1);
        Asked.tell(hall, "d(x0)=c(x0,x0)");
        hall.complete();
        Asked.push(hall, "d(" + Asked.nested("b", 19, "a") + ")", "a");
        hall.equation();
        Asked.refused("27 size 41", hall, STATE, () -> hall.complete());
        Asked.tell(hall, "d(" + Asked.nested("b", 17, "a") + ")=c(" + Asked.nested("b", 17, "a") + ","
            + Asked.nested("b", 17, "a") + ")");
        Asked.due("27 the smaller one is behind it", hall.row(4, 0).length() < hall.row(4, 1).length(), true);
        Rewritehall just = Asked.hall(0, 1, 2, 1);
        Asked.tell(just, "d(x0)=c(x0,x0)");
        just.complete();
        Asked.push(just, "b(d(" + Asked.nested("b", 18, "a") + "))", "a");
        just.equation();
        Asked.due("27 size 40", just.complete(), 1);
    }

    /** Only the overlaps of the new rule are made; so an older one that is too large can't be there. */
    private static void refusedForPeaks() {
        Rewritehall hall = Asked.hall(0, 1, 2, 1);
        Asked.tell(hall, Asked.nested("d", 10, "b(x0)") + "=" + Asked.nested("b", 20, "x0"), "b(b(b(a)))=a");
        hall.complete();
        Asked.due("27 a rule", Asked.rows(hall, 3), "b(b(b(a)))>a");
        Asked.due("27 another one", hall.complete(), 1);
        Asked.due("27 the overlap waits", hall.many(4), 1);
        Rewritehall two = Asked.hall(0, 1, 2, 1);
        Asked.tell(two, "d(c(x0,x0))=x0", "c(x1,x2)=b(" + Asked.nested("b", 17, "x1") + ")");
        two.complete();
        String before = Asked.rows(two, 3);
        Asked.due("27 a rule", before, "d(c(x0,x0))>x0");
        Asked.due("27 left sides within are taken out", two.complete(), 1);
        Asked.due("27 it waits", Asked.rows(two, 4), "d(c(x0,x0))=x0");
    }

    private static void finish() {
        Rewritehall hall = new Rewritehall();
        Asked.refused("28 0", hall, ARGUMENT, () -> hall.finish(0));
        Asked.refused("28 13", hall, ARGUMENT, () -> hall.finish(13));
        Asked.refused("28 -1", hall, ARGUMENT, () -> hall.finish(-1));
        Asked.due("28 nothing waits", hall.finish(12), 0);
        hall.example(1, false);
        Asked.due("28 one", hall.finish(1), 1);
        Asked.due("28 as long as something waits", hall.finish(12), 3);
        Asked.due("28 steps", hall.many(9), 4);
    }

    private static void restart() {
        Rewritehall hall = new Rewritehall();
        Asked.due("29 without equations", hall.restart(), 0);
        hall.example(2, true);
        hall.finish(3);
        Asked.push(hall, "d(x0)", "x0", "x0", "a", "c(a,b(x1,x2))");
        hall.exchange();
        hall.drop();
        hall.again(0);
        hall.drop();
        int age = hall.many(10);
        Asked.due("29 all equations", hall.restart(), 8);
        Asked.due("29 no rules", hall.many(3) + " " + hall.many(5) + " " + hall.many(6), "0 0 0");
        Asked.due("29 ages go on", hall.many(10), age + 8);
        Asked.due("29 steps stay", hall.many(9), 3);
        Asked.due("29 the stack stays", hall.many(1), 4);
        Rewritehall guarded = Asked.hall(0, 1);
        Asked.push(guarded, "b(x0)", "x0", "x0", "a");
        guarded.condition();
        Asked.due("29 conditional ones are gone", guarded.restart() + guarded.many(6), 0);
        Rewritehall turned = Asked.hall(2);
        Asked.tell(turned, "a(x0,x1)=a(x1,x0)", "a(x0,x1)=a(x1,x0)");
        turned.finish(12);
        Asked.due("29 unturned ones are gone", turned.many(5) + " " + turned.restart() + " " + turned.many(5), "2 2 0");
    }

    private static void examples() {
        Rewritehall hall = Asked.hall(0, 1, 2);
        Asked.refused("30 -1", hall, ARGUMENT, () -> hall.example(-1, true));
        Asked.refused("30 3", hall, ARGUMENT, () -> hall.example(3, false));
        Asked.push(hall, "b(x0)", "x0", "x0", "a");
        hall.condition();
        Asked.push(hall, "a");
        hall.knock();
        int[] told = {3, 4, 4};
        int[] finished = {10, 4, 8};
        String[] symbols = {"a01 b21 c11", "a01 b21 c21 d11", "a01 b21+ c21 d11"};
        String[] equations = {"b(a,x0)=x0 b(c(x0),x0)=a b(b(x0,x1),x2)=b(x0,b(x1,x2)) b(x0,a)=x0 b(x0,c(x0))=a"
            + " b(c(x0),b(x0,x1))=x1 b(x0,b(c(x0),x1))=x1 c(a)=a c(c(x0))=x0 c(b(x0,x1))=b(c(x1),c(x0))",
            "c(a,x0)=x0 c(b(x0,x1),x2)=b(x0,c(x1,x2)) d(a)=a d(b(x0,x1))=c(d(x1),b(x0,a))",
            "b(a,x0)=x0 b(x0,a)=x0 c(x0,b(x1,x2))=b(c(x0,x1),c(x0,x2)) c(b(x0,x1),x2)=b(c(x0,x2),c(x1,x2))"
            + " c(a,x0)=a c(x0,a)=a d(a)=a d(d(x0))=x0"};
        for (int n = 0; n < 3; n++) {
            int age = hall.many(10);
            Asked.due("30 told " + n, hall.example(n, false), told[n]);
            Asked.due("30 wait " + n, hall.many(4), told[n]);
            Asked.due("30 ages " + n, hall.many(10), age + told[n]);
            Asked.due("30 finished " + n, hall.example(n, true), finished[n]);
            Asked.due("30 equations " + n, Asked.rows(hall, 2), equations[n]);
            Asked.due("30 symbols " + n, Asked.rows(hall, 0), symbols[n]);
            Asked.due("30 empty " + n, hall.many(1) + hall.many(3) + hall.many(5) + hall.many(6) + hall.many(7), 0);
        }
        Asked.due("30 refused stay", hall.many(11), 1);
        hall.restart();
        hall.order(1);
        hall.sum(2, true);
        hall.example(0, false);
        Asked.due("30 the order", hall.many(7), 0);
        Asked.due("30 no sums", Asked.rows(hall, 0), "a01 b21 c11");
    }

    private static void many() {
        Rewritehall hall = new Rewritehall();
        Asked.refused("31 -1", hall, ARGUMENT, () -> hall.many(-1));
        Asked.refused("31 12", hall, ARGUMENT, () -> hall.many(12));
        hall.example(1, false);
        hall.knock();
        hall.finish(12);
        Asked.tell(hall, "c(a,a)=a", "b(x0,x1)=b(x1,x0)", "d(d(a))=a");
        hall.finish(2);
        Asked.push(hall, "a", "x0", "d(x0)", "x0", "x0", "x0");
        hall.condition();
        int[] wants = {4, 2, 7, 4, 1, 0, 1, 0, 2, 6, 7, 1};
        for (int what = 0; what < 12; what++) {
            Asked.due("31 " + what, hall.many(what), wants[what]);
        }
    }

    private static void row() {
        Rewritehall hall = Asked.hall(0, 1, 2);
        hall.symbol(2, 9);
        hall.sum(3, true);
        Asked.refused("32 what -1", hall, ARGUMENT, () -> hall.row(-1, 0));
        Asked.refused("32 what 7", hall, ARGUMENT, () -> hall.row(7, 99));
        for (int what = 0; what < 7; what++) {
            int row = what;
            Asked.refused("32 -1 of " + what, hall, INDEX, () -> hall.row(row, -1));
            Asked.refused("32 behind all of " + what, hall, INDEX, () -> hall.row(row, hall.many(row)));
        }
        Asked.due("32 symbols", Asked.rows(hall, 0), "a01 b11 c21 d29+");
        Asked.push(hall, "d(b(x0),x1)", "c(x1,x0)", "x0", "b(x0)");
        Asked.due("32 the stack from below", Asked.rows(hall, 1), "d(b(x0),x1) c(x1,x0) x0 b(x0)");
        hall.condition();
        Asked.due("32 conditional", hall.row(6, 0), "d(b(x0),x1)>c(x1,x0)|x0=b(x0)");
        Asked.tell(hall, "b(b(x3))=x3", "c(x0,x1)=c(x1,x0)", "b(x2)=x2");
        Asked.due("32 equations", Asked.rows(hall, 2), "b(b(x0))=x0 c(x0,x1)=c(x1,x0) b(x0)=x0");
        Asked.due("32 what waits, by size", Asked.rows(hall, 4), "b(x0)=x0 b(b(x0))=x0 c(x0,x1)=c(x1,x0)");
        hall.finish(12);
        Asked.due("32 rules", Asked.rows(hall, 3), "b(x0)>x0");
        Asked.due("32 unturned", Asked.rows(hall, 5), "c(x0,x1)=c(x1,x0)");
    }

    private static void ofRule() {
        Rewritehall hall = new Rewritehall();
        Asked.refused("33 none", hall, INDEX, () -> hall.ofRule(0, 9));
        hall.example(1, false);
        hall.finish(12);
        int[][] wants = {{2, 3, 5, 4}, {1, 1, 5, 6}, {1, 1, 1, 1}};
        for (int what = 0; what < 3; what++) {
            for (int i = 0; i < 4; i++) {
                Asked.due("33 " + i + ", " + what, hall.ofRule(i, what), wants[what][i]);
            }
        }
        Asked.refused("33 -1", hall, INDEX, () -> hall.ofRule(-1, 0));
        Asked.refused("33 4", hall, INDEX, () -> hall.ofRule(4, 3));
        Asked.refused("33 what -1", hall, ARGUMENT, () -> hall.ofRule(0, -1));
        Asked.refused("33 what 3", hall, ARGUMENT, () -> hall.ofRule(0, 3));
    }

    /** Each a rule of d > c > b > a; a right side that becomes its end takes the uses of that over. */
    private static void chainsOfRules() {
        Rewritehall hall = Asked.hall(0, 0, 0, 0, 1);
        Asked.tell(hall, "e(x0)=d", "c=d", "b=c", "a=b");
        Asked.due("27 exchanged", hall.complete(), 2);
        Asked.due("33 one", hall.ofRule(0, 2), 1);
        hall.complete();
        Asked.due("27 rules", Asked.rows(hall, 3), "d>b c>b");
        Asked.due("33 two", hall.ofRule(0, 2) + " " + hall.ofRule(1, 2), "2 1");
        hall.complete();
        Asked.due("27 rules", Asked.rows(hall, 3), "d>a c>a b>a");
        Asked.due("33 three", hall.ofRule(0, 2) + " " + hall.ofRule(1, 2) + " " + hall.ofRule(2, 2), "3 2 1");
        hall.complete();
        Asked.due("27 the last one", hall.row(3, 3), "e(x0)>a");
        Asked.due("33 four", hall.ofRule(3, 2), 4);
        Asked.due("45 sound", hall.isSound(), true);
        Rewritehall far = Asked.hall(1, 1, 1, 1, 1);
        Asked.tell(far, "a(a(x0))=x0");
        for (int k = 1; k < 5; k++) {
            String letter = String.valueOf((char) ('a' + k));
            String below = String.valueOf((char) ('a' + k - 1));
            Asked.tell(far, letter + "(x0)=" + Asked.nested(below, 38, "x0"));
        }
        Asked.due("28 five", far.finish(12), 5);
        int[] uses = {1, 20, 38 * 20 + 1, 38 * 761 + 1, 1000000};
        for (int k = 0; k < 5; k++) {
            Asked.due("33 uses of " + far.row(3, k), far.ofRule(k, 2), uses[k]);
        }
        Asked.push(far, "c(a(x1))", "a(x1)");
        Asked.refused("35 761 uses", far, STATE, () -> far.proofSize());
        Asked.due("34 nevertheless", far.same(), true);
    }
}
