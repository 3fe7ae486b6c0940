/**
 * Promises 24 to 33 at their edges: the last one that is kept, the first one that is not, which exception comes first
 * if several apply, and that a call that is refused changes nothing.
 */
public final class BoundsOfCompletionTest {
    private static final Class<?> ARGUMENT = IllegalArgumentException.class;
    private static final Class<?> STATE = IllegalStateException.class;
    private static final Class<?> INDEX = IndexOutOfBoundsException.class;

    private BoundsOfCompletionTest() {
    }

    public static void main(String[] args) {
        overlapsTakeNone();
        overlapsTakeSize40OfLeft();
        overlapsTakeSize40OfRight();
        overlapTakesEachOfTheRow();
        overlapNamesTheArgumentFirst();
        overlapEndsTake60Steps();
        overlapEndsTakeSize40();
        missingTakes60Steps();
        missingTakesNoBoundBehind();
        completeAnswersFive();
        completeTakesTheSmallestThenTheOldest();
        completeTakes60StepsOfEachSide();
        completeTakesSize40OfEachSide();
        completeTakes60StepsOfAnOldRule();
        completeTakesSize40OfAnOldRule();
        completeTakesSize40OfAPeak();
        completeTakesSize40OfLeft();
        completeTakesSize40OfRight();
        completeTakes14Rules();
        completeTakesARuleForARule();
        completeTakesSixUnturned();
        completeTakes120OfOverlaps();
        completeTakes120OfOldRules();
        completeBringsAllBack();
        completeIsRefusedNoLongerThanNeeded();
        completeTakesNoMoreThanOne();
        endsGoByTheStrategy0();
        endsOfOldRulesGoByTheStrategy0();
        completionIsPlain();
        finishTakesOneToTwelve();
        finishEndsWhereAStepIsRefused();
        restartTakesEachEquation();
        restartIsLikeANewHall();
        exampleTakesThree();
        exampleKeepsFourCounts();
        manyTakesTwelve();
        rowTakesSeven();
        rowTakesAsManyAsThereAre();
        rowOfWhatWaits();
        ofRuleTakesEachRule();
        ofRuleAnswersAMillionAtMost();
        Asked.finish("BoundsOfCompletionTest");
    }

    private static void overlapsTakeNone() {
        Rewritehall hall = Asked.hall(0, 1, 2);
        Asked.due("24 without rules", hall.overlaps(), 0);
        Asked.tell(hall, "b(x0)=x0", "a=a");
        hall.finish(2);
        Asked.due("24 a rule that does not meet itself", hall.overlaps() + " " + hall.many(3), "0 1");
        Asked.refusedOutside("25 none", hall, INDEX, 0, -1, n -> hall.overlap(n, 0));
        Asked.refused("25 none at 0", hall, INDEX, () -> hall.overlap(0, 4));
        Asked.due("26 none", hall.missing(), -1);
        Rewritehall unturned = Full.unturned(6);
        Asked.due("24 unturned ones do not meet", unturned.overlaps() + " " + unturned.missing(), "0 -1");
    }

    /** Tells equations, each of which is taken as it is told. */
    private static void takes(Rewritehall hall, String... equations) {
        for (String equation : equations) {
            Asked.tell(hall, equation);
            Asked.due("27 " + equation + " becomes a rule", hall.complete(), 1);
            int last = hall.many(3) - 1;
            Asked.due("27 that one", hall.row(3, last), equation.replace("=", ">"));
        }
    }

    private static String b(int many, String inside) {
        return Asked.nested("b", many, inside);
    }

    /**
     * e(..) goes into d(..e(x0)); then c(x0) becomes so many b, and an old right side grows by that: so does the
     * overlap, which was small as it came about.
     */
    private static Rewritehall grown(String left, String right, int leftEnd, String rightEnd, int many) {
        Rewritehall hall = Asked.hall(0, 1, 1, 1, 1);
        takes(hall, "d(" + b(leftEnd, "e(x0)") + ")=" + right, "e(" + b(30 - leftEnd, "a") + ")=" + left);
        takes(hall, "c(x0)=" + b(many, "x0"));
        Asked.due("27 the overlap waits", hall.many(4), 1);
        Asked.due("27 the old right side has grown", Asked.rows(hall, 3).contains(">" + rightEnd), true);
        return hall;
    }

    private static void overlapsTakeSize40OfLeft() {
        Rewritehall hall = grown("c(a)", "x0", 10, b(28, "a"), 28);
        Asked.due("24 size 40 of left", hall.overlaps(), 1);
        Asked.due("25 the peak", hall.overlap(0, 0), "d(" + b(10, "e(" + b(20, "a") + ")") + ")");
        Asked.due("25 left", hall.overlap(0, 1), "d(" + b(38, "a") + ")");
        Asked.due("25 right", hall.overlap(0, 2), b(20, "a"));
        Asked.due("26 size 40 of left", hall.missing(), 0);
        refusedRow("size 41 of left", grown("c(a)", "x0", 10, b(29, "a"), 29));
    }

    private static void overlapsTakeSize40OfRight() {
        Rewritehall hall = grown("a", "c(x0)", 20, b(29, "x0"), 29);
        Asked.due("24 size 40 of right", hall.overlaps(), 1);
        Asked.due("25 the peak", hall.overlap(0, 0), "d(" + b(20, "e(" + b(10, "a") + ")") + ")");
        Asked.due("25 left", hall.overlap(0, 1), "d(" + b(20, "a") + ")");
        Asked.due("25 right", hall.overlap(0, 2), b(39, "a"));
        Asked.due("26 size 40 of right", hall.missing(), 0);
        refusedRow("size 41 of right", grown("a", "c(x0)", 20, b(30, "x0"), 30));
    }

    /** The row of overlaps has one that is too large: that is named ahead of an index, and behind an argument. */
    private static void refusedRow(String what, Rewritehall hall) {
        Asked.refused("24 " + what, hall, STATE, () -> hall.overlaps());
        Asked.refused("26 " + what, hall, STATE, () -> hall.missing());
        for (int k = 0; k < 5; k++) {
            int n = k;
            Asked.refused("25 " + what + ", " + n, hall, STATE, () -> hall.overlap(0, n));
            Asked.refusedOutside("25 the bound ahead of the index", hall, STATE, 0, 0, i -> hall.overlap(i, n));
        }
        Asked.refusedOutside("25 the argument ahead of the bound", hall, ARGUMENT, 0, 4, n -> hall.overlap(0, n));
        Asked.refusedOutside("25 the argument ahead of all", hall, ARGUMENT, 0, 4, n -> hall.overlap(-1, n));
        Asked.due("45 sound", hall.isSound(), true);
    }

    private static void overlapTakesEachOfTheRow() {
        Rewritehall hall = Asked.hall(0, 1);
        takes(hall, "b(b(b(b(a))))=a");
        Asked.due("24 none", hall.overlaps(), 0);
        Rewritehall three = Asked.hall(0, 1);
        takes(three, "b(b(b(b(x0))))=x0");
        Asked.due("24 three", three.overlaps(), 3);
        for (int i = 0; i < 3; i++) {
            Asked.due("25 peak " + i, three.overlap(i, 0), b(5 + i, "x0"));
            for (int what = 1; what < 5; what++) {
                Asked.due("25 " + i + ", " + what, three.overlap(i, what), b(1 + i, "x0"));
            }
        }
        for (int what = 0; what < 5; what++) {
            int n = what;
            Asked.refusedOutside("25 no such overlap, " + n, three, INDEX, 0, 2, i -> three.overlap(i, n));
        }
    }

    private static void overlapNamesTheArgumentFirst() {
        Rewritehall hall = Asked.hall(0, 1);
        Asked.refusedOutside("25 without overlaps", hall, ARGUMENT, 0, 4, n -> hall.overlap(0, n));
        takes(hall, "b(b(x0))=x0");
        Asked.refusedOutside("25 no such what", hall, ARGUMENT, 0, 4, n -> hall.overlap(0, n));
        Asked.refusedOutside("25 no such what, nor overlap", hall, ARGUMENT, 0, 4, n -> hall.overlap(1, n));
        Asked.refused("25 no such overlap", hall, INDEX, () -> hall.overlap(1, 3));
    }

    /** So many c over a have their end by as many steps as 1 and 2 and so on are together. */
    private static String crowd(int many, int others, String x) {
        return "d(" + Asked.nested("c", many, x) + "," + Asked.nested("c", others, x) + ")";
    }

    /** e(a,x0) and e(x0,a) meet in e(a,a); what comes of that has its end by c(a) > b(a), c(b(x0)) > b(c(x0)). */
    private static Rewritehall met(String first, String second) {
        Rewritehall hall = Asked.hall(0, 1, 1, 2, 2);
        takes(hall, "e(a,x0)=" + first, "e(x0,a)=" + second, "c(a)=b(a)", "c(b(x0))=b(c(x0))");
        return hall;
    }

    private static void overlapEndsTake60Steps() {
        Rewritehall hall = met(crowd(9, 5, "x0"), crowd(9, 5, "x0"));
        Asked.due("24 one, that does not wait", hall.overlaps() + " " + hall.many(4), "1 0");
        Asked.due("25 left", hall.overlap(0, 1), crowd(9, 5, "a"));
        for (int what = 3; what < 5; what++) {
            Asked.due("25 60 steps, " + what, hall.overlap(0, what), "d(" + b(9, "a") + "," + b(5, "a") + ")");
        }
        Asked.due("26 60 steps of both", hall.missing(), -1);
        Rewritehall more = met(crowd(10, 3, "x0"), crowd(10, 3, "x0"));
        Asked.due("24 one, that does not wait", more.overlaps() + " " + more.many(4), "1 0");
        for (int what = 0; what < 3; what++) {
            Asked.due("25 no steps for " + what, more.overlap(0, what), what == 0 ? "e(a,a)" : crowd(10, 3, "a"));
        }
        for (int what = 3; what < 5; what++) {
            int n = what;
            Asked.refused("25 61 steps, " + n, more, STATE, () -> more.overlap(0, n));
            Asked.refusedOutside("25 no steps of what is not there", more, INDEX, 0, 0, i -> more.overlap(i, n));
        }
        Asked.refused("26 61 steps", more, STATE, () -> more.missing());
        Asked.due("45 sound, as a bound is not kept", more.isSound(), true);
    }

    private static void overlapEndsTakeSize40() {
        for (int many = 37; many <= 38; many++) {
            Rewritehall hall = Asked.hall(0, 1, 1, 2, 2);
            takes(hall, "e(a,x0)=d(c(x0),x0)", "e(x0,a)=d(c(x0),x0)", "c(a)=" + b(many, "a"));
            Asked.due("24 one, that does not wait", hall.overlaps() + " " + hall.many(4), "1 0");
            for (int what = 3; what < 5; what++) {
                int n = what;
                if (many == 37) {
                    Asked.due("25 size 40, " + n, hall.overlap(0, n), "d(" + b(37, "a") + ",a)");
                } else {
                    Asked.refused("25 size 41, " + n, hall, STATE, () -> hall.overlap(0, n));
                    Asked.due("25 size 4", hall.overlap(0, n - 2), "d(c(a),a)");
                }
            }
            if (many == 37) {
                Asked.due("26 size 40", hall.missing(), -1);
            } else {
                Asked.refused("26 size 41", hall, STATE, () -> hall.missing());
            }
            Asked.due("45 sound", hall.isSound(), true);
        }
    }

    private static void missingTakes60Steps() {
        Rewritehall left = met(crowd(9, 5, "x0"), "x0");
        Asked.due("26 60 steps of left", left.missing() + " " + left.overlap(0, 4), "0 a");
        Rewritehall right = met("x0", crowd(9, 5, "x0"));
        Asked.due("26 60 steps of right", right.missing() + " " + right.overlap(0, 3), "0 a");
        Rewritehall moreLeft = met(crowd(10, 3, "x0"), "x0");
        Asked.refused("26 61 steps of left", moreLeft, STATE, () -> moreLeft.missing());
        Asked.refused("25 61 steps of left", moreLeft, STATE, () -> moreLeft.overlap(0, 3));
        Asked.due("25 none of right", moreLeft.overlap(0, 4), "a");
        Rewritehall moreRight = met("x0", crowd(10, 3, "x0"));
        Asked.refused("26 61 steps of right", moreRight, STATE, () -> moreRight.missing());
        Asked.refused("25 61 steps of right", moreRight, STATE, () -> moreRight.overlap(0, 4));
        Asked.due("25 none of left", moreRight.overlap(0, 3), "a");
    }

    private static void missingTakesNoBoundBehind() {
        Rewritehall hall = Asked.hall(0, 1, 1, 2, 2);
        String tree = "d(d(x0,x0),d(x0,x0))";
        takes(hall, "e(x0,a)=" + tree, "e(x0,b(a))=" + crowd(10, 3, "x0"), "e(a,x0)=x0", "c(a)=b(a)",
            "c(b(x0))=b(c(x0))");
        Asked.due("24 two", hall.overlaps() + " " + hall.overlap(0, 0) + " " + hall.overlap(1, 0),
            "2 e(a,a) e(a,b(a))");
        Asked.refused("25 61 steps of the second one", hall, STATE, () -> hall.overlap(1, 3));
        Asked.due("26 the first one is missing", hall.missing(), 0);
        Rewritehall ahead = Asked.hall(0, 1, 1, 2, 2);
        takes(ahead, "e(x0,b(a))=" + crowd(10, 3, "x0"), "e(x0,a)=" + tree, "e(a,x0)=x0", "c(a)=b(a)",
            "c(b(x0))=b(c(x0))");
        Asked.due("24 two", ahead.overlaps() + " " + ahead.overlap(1, 3) + " " + ahead.overlap(1, 4),
            "2 d(d(a,a),d(a,a)) a");
        Asked.refused("26 61 steps ahead of the one that is missing", ahead, STATE, () -> ahead.missing());
        Rewritehall behind = Asked.hall(0, 1, 1, 2, 2);
        takes(behind, "e(a,x0)=x0", "e(x0,a)=x0", "e(x0,b(a))=" + tree);
        Asked.due("26 the second one, as the first one meets", behind.missing() + " " + behind.overlaps(), "1 2");
    }

    private static void completeAnswersFive() {
        Rewritehall hall = Asked.hall(0, 1, 2);
        Asked.due("27 nothing waits", hall.complete() + " " + hall.many(9), "-1 0");
        Asked.tell(hall, "a=a");
        Asked.due("27 dropped", hall.complete() + " " + hall.many(8) + " " + hall.many(9), "0 1 1");
        Asked.tell(hall, "b(b(x0))=x0");
        Asked.due("27 a rule", hall.complete() + " " + hall.many(8) + " " + hall.many(9), "1 1 2");
        Asked.tell(hall, "a=b(a)");
        Asked.due("27 a rule, exchanged", hall.complete() + " " + hall.many(8) + " " + hall.many(9), "2 1 3");
        Asked.tell(hall, "c(x0,x1)=c(x1,x0)");
        hall.complete();
        Asked.due("27 unturned", hall.complete() + " " + hall.many(5) + " " + hall.many(9), "3 1 5");
        Asked.due("27 nothing waits any more", hall.complete() + " " + hall.many(9), "-1 5");
    }

    private static void completeTakesTheSmallestThenTheOldest() {
        Rewritehall hall = Asked.hall(0, 1, 1);
        Asked.tell(hall, "c(c(a))=a", "b(a)=c(a)", "c(a)=b(a)", "b(a)=b(b(a))", "a=a");
        Asked.due("32 by sizes, then by ages", Asked.rows(hall, 4),
            "a=a c(c(a))=a b(a)=c(a) c(a)=b(a) b(a)=b(b(a))");
        Asked.due("27 the smallest", hall.complete(), 0);
        Asked.due("27 the oldest", hall.complete() + " " + Asked.rows(hall, 3), "1 c(c(a))>a");
        Asked.due("27 the next", hall.complete() + " " + Asked.rows(hall, 3), "2 c(a)>b(a)");
        Asked.due("27 what was taken out is the youngest", Asked.rows(hall, 4), "c(a)=b(a) c(c(a))=a b(a)=b(b(a))");
        Asked.due("27 its age", hall.many(10), 6);
    }

    private static void told(String what, Rewritehall hall, String equation, int due) {
        Asked.tell(hall, equation);
        if (due < 0) {
            Asked.refused("27 " + what, hall, STATE, () -> hall.complete());
            Asked.due("28 " + what, hall.finish(12) + " " + hall.many(4), "0 1");
        } else {
            Asked.due("27 " + what, hall.complete(), due);
        }
    }

    private static void completeTakes60StepsOfEachSide() {
        String sixty = Full.sixty("c(a)");
        String more = Full.sixty("c(b(a))");
        told("60 steps of the left side", Full.sorting(), sixty + "=a", 1);
        told("60 steps of the right side", Full.sorting(), "a=" + sixty, 2);
        told("60 steps of both sides", Full.sorting(), sixty + "=" + Full.sorted("c(a)"), 0);
        told("60 steps of each side", Full.sorting(), sixty + "=" + Full.sixty("a"), 1);
        told("61 steps of the left side", Full.sorting(), more + "=a", -1);
        told("61 steps of the right side", Full.sorting(), "a=" + more, -1);
        told("61 steps of the right side of what would be dropped", Full.sorting(), Full.sorted("b(c(a))") + "=" + more,
            -1);
    }

    private static void completeTakesSize40OfEachSide() {
        for (int more = 0; more < 2; more++) {
            String large = b(1 + more, "d(" + b(18, "a") + ")");
            for (int side = 0; side < 2; side++) {
                Rewritehall hall = Asked.hall(0, 1, 2, 1);
                takes(hall, "d(x0)=c(x0,x0)");
                told("size " + (40 + more) + " of a side", hall, side == 0 ? large + "=a" : "a=" + large,
                    more == 1 ? -1 : side == 0 ? 1 : 2);
            }
        }
    }

    private static void completeTakes60StepsOfAnOldRule() {
        for (int more = 0; more < 2; more++) {
            Rewritehall hall = Asked.hall(0, 1, 1, 2, 1);
            String rest = more == 0 ? "c(x0)" : "c(b(x0))";
            takes(hall, "e(x0)=d(" + Asked.nested("c", 6, b(10, "x0")) + "," + rest + ")");
            told((60 + more) + " steps of an old right side", hall, "c(b(x0))=b(c(x0))", more == 0 ? 1 : -1);
            Asked.due("27 how many rules", hall.many(3), 2 - more);
        }
    }

    private static void completeTakesSize40OfAnOldRule() {
        for (int more = 0; more < 2; more++) {
            Rewritehall hall = Asked.hall(0, 1, 2, 1, 1);
            takes(hall, "e(x0)=" + b(1 + more, "d(" + b(18, "x0") + ")"));
            told("size " + (40 + more) + " of an old right side", hall, "d(x0)=c(x0,x0)", more == 0 ? 1 : -1);
            Asked.due("27 how many rules", hall.many(3), 2 - more);
        }
    }

    /** b(d(..e(x0))) goes into c(d(..b(x0))). */
    private static void meets(String what, int ofInner, int ofOuter, String innerRight, String outerRight, int due) {
        Rewritehall hall = Asked.hall(0, 1, 1, 1, 1);
        takes(hall, "b(" + Asked.nested("d", ofInner, "e(x0)") + ")=" + innerRight);
        told(what, hall, "c(" + Asked.nested("d", ofOuter, "b(x0)") + ")=" + outerRight, due);
        Asked.due("24 " + what, hall.overlaps(), due < 0 ? 0 : 1);
        Rewritehall turned = Asked.hall(0, 1, 1, 1, 1);
        takes(turned, "c(" + Asked.nested("d", ofOuter, "b(x0)") + ")=" + outerRight);
        told(what + ", the other one first", turned, "b(" + Asked.nested("d", ofInner, "e(x0)") + ")=" + innerRight,
            due);
    }

    private static void completeTakesSize40OfAPeak() {
        meets("size 40 of a peak", 18, 18, "x0", "x0", 1);
        meets("size 41 of a peak", 19, 18, "x0", "x0", -1);
        meets("size 41 of a peak", 18, 19, "x0", "x0", -1);
    }

    private static void completeTakesSize40OfLeft() {
        meets("size 40 of left", 1, 8, b(30, "x0"), "x0", 1);
        meets("size 41 of left", 1, 8, b(31, "x0"), "x0", -1);
        meets("size 41 of left", 1, 9, b(30, "x0"), "x0", -1);
    }

    private static void completeTakesSize40OfRight() {
        meets("size 40 of right", 18, 1, "x0", b(20, "x0"), 1);
        meets("size 41 of right", 18, 1, "x0", b(21, "x0"), -1);
        meets("size 41 of right", 19, 1, "x0", b(20, "x0"), -1);
    }

    private static void completeTakes14Rules() {
        Rewritehall hall = Full.rules(13);
        Asked.due("27 a fourteenth rule", hall.complete() + " " + hall.many(3), "1 14");
        Asked.refused("27 a fifteenth rule", hall, STATE, () -> hall.complete());
        Asked.due("28 a fifteenth rule", hall.finish(12) + " " + hall.many(4), "0 3");
        Asked.tell(hall, "b(a)=b(a)", "c(x0,x1)=c(x1,x0)");
        Asked.due("27 dropped with 14 rules", hall.complete(), 0);
        Asked.due("27 unturned with 14 rules", hall.complete() + " " + hall.many(5), "3 1");
        Asked.refused("27 then the fifteenth rule again", hall, STATE, () -> hall.complete());
    }

    private static void completeTakesARuleForARule() {
        Rewritehall hall = Full.rules(14);
        Asked.due("27 the one that is to be taken out", hall.row(3, 2), "e(a,a)>" + Full.RIGHT);
        Asked.tell(hall, "e(x0,a)=" + Full.RIGHT);
        Asked.due("27 a fifteenth for the one that is taken out", hall.complete() + " " + hall.many(3), "1 14");
        Asked.due("27 the last one", hall.row(3, 13) + " " + hall.row(4, 0),
            "e(x0,a)>" + Full.RIGHT + " e(a,a)=" + Full.RIGHT);
        Asked.due("27 that one is dropped", hall.complete() + " " + hall.many(3), "0 14");
    }

    private static void completeTakesSixUnturned() {
        Rewritehall hall = Full.unturned(5);
        Asked.tell(hall, "c(d(x0),x1)=c(x1,d(x0))");
        Asked.due("27 a sixth", hall.complete() + " " + hall.many(5), "3 6");
        Asked.tell(hall, "c(e(x0),x1)=c(x1,e(x0))");
        Asked.refused("27 a seventh", hall, STATE, () -> hall.complete());
        Asked.due("28 a seventh", hall.finish(12), 0);
        Asked.tell(hall, "a=a");
        Asked.due("27 dropped with six", hall.complete(), 0);
        Asked.tell(hall, "b(a)=a");
        Asked.due("27 a rule with six", hall.complete(), 1);
        Asked.refused("27 then the seventh again", hall, STATE, () -> hall.complete());
        Asked.due("29 none behind a restart", hall.restart() + " " + hall.many(5), "9 0");
    }

    private static void completeTakes120OfOverlaps() {
        Rewritehall hall = Full.meeting(120);
        Asked.due("27 one alone waits", hall.many(4) + " " + hall.many(3), "1 8");
        Asked.due("27 120 come to wait", hall.complete() + " " + hall.many(4), "1 120");
        Rewritehall more = Full.meeting(121);
        Asked.due("27 one alone waits", more.many(4) + " " + more.many(3), "1 9");
        Asked.refused("27 121 would come to wait", more, STATE, () -> more.complete());
        Asked.due("28 121 would come to wait", more.finish(12) + " " + more.many(4), "0 1");
    }

    /** With 120 that wait one is taken, and d(..a) > a takes out each rule that has as many d. */
    private static void completeTakes120OfOldRules() {
        Rewritehall hall = Full.waiting(119);
        Asked.tell(hall, Asked.nested("d", 7, "a") + "=a");
        Asked.due("27 120 wait, the small one is the next", hall.many(4) + " " + hall.row(4, 0),
            "120 " + Asked.nested("d", 7, "a") + "=a");
        Asked.due("27 one is taken out for the one that is taken", hall.complete() + " " + hall.many(4), "1 120");
        Rewritehall more = Full.waiting(119);
        Asked.tell(more, Asked.nested("d", 6, "a") + "=a");
        Asked.refused("27 two would be taken out", more, STATE, () -> more.complete());
        Asked.due("28 two would be taken out", more.finish(12) + " " + more.many(4), "0 120");
    }

    private static void completeTakesNoMoreThanOne() {
        Rewritehall hall = Full.waiting(10);
        for (int k = 1; k <= 10; k++) {
            String due = "1 " + (10 - k) + " " + (k + 2);
            Asked.due("27 one", hall.complete() + " " + hall.many(4) + " " + hall.many(9), due);
        }
    }

    /** e(x0,x1) > a would take out 13 of 14 rules, for six of which there is room. */
    private static void completeBringsAllBack() {
        Rewritehall hall = Full.waiting(120);
        Asked.due("28 as many rules as may be", hall.finish(5) + " " + hall.many(3) + " " + hall.many(4), "5 14 115");
        Asked.tell(hall, "e(x0,x1)=a");
        String rules = Asked.rows(hall, 3);
        String waiting = Asked.rows(hall, 4);
        Asked.due("32 the next one", hall.row(4, 0), "e(x0,x1)=a");
        Asked.refused("27 too many are taken out", hall, STATE, () -> hall.complete());
        Asked.due("28 too many are taken out", hall.finish(12), 0);
        Asked.due("27 all rules stay", Asked.rows(hall, 3), rules);
        Asked.due("27 all that waits stays", Asked.rows(hall, 4), waiting);
        Asked.push(hall, "e(a," + b(15, "x3") + ")", Full.RIGHT);
        Asked.due("35 the first rule stays", hall.proofSize() + " " + hall.proofUse(0), "1 0>0");
        Asked.push(hall, "e(a," + b(2, "a") + ")", Full.RIGHT);
        Asked.due("35 the last rules stay", hall.proofSize() + " " + hall.isProved(), "2 true");
        Asked.due("29 behind a restart it is the first", hall.restart() + " " + hall.complete() + " " + hall.row(3, 0),
            "10 1 e(x0,x1)>a");
    }

    /** What is refused is refused again, till something is told that changes that. */
    private static void completeIsRefusedNoLongerThanNeeded() {
        Rewritehall hall = Asked.hall(0, 1, 1, 1);
        String large = "c(" + Asked.nested("d", 19, "c(x0)") + ")";
        Asked.tell(hall, large + "=x0");
        for (int k = 0; k < 3; k++) {
            Asked.refused("27 a peak of size 42", hall, STATE, () -> hall.complete());
        }
        hall.order(1);
        Asked.refused("27 a peak of size 42 by weights", hall, STATE, () -> hall.complete());
        hall.symbol(0, 1);
        hall.knock();
        Asked.refused("27 all else changes nothing", hall, STATE, () -> hall.complete());
        Asked.tell(hall, "d(x0)=x0");
        Asked.due("27 a smaller one", hall.complete() + " " + hall.row(3, 0), "1 d(x0)>x0");
        Asked.due("27 now it has no such peak", hall.complete() + " " + Asked.rows(hall, 3), "1 d(x0)>x0 c(c(x0))>x0");
        Rewritehall turned = Asked.hall(0, 1, 1, 1);
        Asked.tell(turned, "b(" + Asked.nested("d", 19, "b(x0)") + ")=c(" + b(23, "x0") + ")");
        Asked.refused("27 by paths its left side is greater", turned, STATE, () -> turned.complete());
        Asked.refused("27 and once more", turned, STATE, () -> turned.complete());
        turned.order(1);
        Asked.due("27 by weights the right side is", turned.complete() + " " + turned.ofRule(0, 0), "2 25");
        turned.restart();
        turned.order(0);
        Asked.refused("27 by paths again", turned, STATE, () -> turned.complete());
        turned.restart();
        Asked.refused("27 behind a restart again", turned, STATE, () -> turned.complete());
        turned.example(1, false);
        Asked.due("27 behind an example", turned.complete(), 1);
    }

    /** d(c(c(b))) becomes c(a) by the strategy 0, and d(b) by others. */
    private static void endsGoByTheStrategy0() {
        Rewritehall hall = Asked.hall(0, 0, 1, 1, 2);
        takes(hall, "d(c(c(x0)))=c(a)", "e(a,x0)=d(c(x0))", "e(x0,c(b))=c(a)", "c(c(b))=b");
        Asked.due("24 three", hall.overlaps() + " " + hall.overlap(0, 1) + " " + hall.overlap(0, 2),
            "3 d(c(c(b))) c(a)");
        Asked.due("25 the end of left by 0", hall.overlap(0, 3), "c(a)");
        Asked.due("26 the first one meets by 0", hall.missing(), 1);
        Asked.push(hall, "d(c(c(b)))", "c(a)");
        Asked.due("34 alike by 0", hall.same() + " " + hall.proofSize() + " " + hall.proofUse(0), "true 1 0>0");
        hall.exchange();
        Asked.due("34 alike by 0, turned", hall.same() + " " + hall.proofSize() + " " + hall.proofUse(0), "true 1 0<0");
        Asked.tell(hall, "a=a", "d(c(c(b)))=a");
        Asked.due("27 the smallest ones", hall.complete() + " " + hall.row(4, 0), "0 d(b)=c(a)");
        Rewritehall sides = Asked.hall(0, 0, 1, 1, 1);
        takes(sides, "d(c(x0))=" + Asked.nested("c", 9, "b"), "c(a)=b");
        Asked.tell(sides, "e(d(c(a)))=a");
        Asked.due("27 the left side by 0", sides.complete() + " " + sides.row(3, 2), "1 e(" + Asked.nested("c", 9, "b")
            + ")>a");
        Asked.tell(sides, "b=e(e(d(c(a))))");
        Asked.due("27 the right side by 0", sides.complete() + " " + sides.row(3, 3), "2 e(a)>b");
    }

    private static void endsOfOldRulesGoByTheStrategy0() {
        Rewritehall hall = Asked.hall(0, 1, 1, 1, 1);
        takes(hall, "e(x0)=d(d(d(x0)))", "d(d(x0))=c(x0)");
        Asked.due("27 the old right side by 0", hall.row(3, 0), "e(x0)>c(d(x0))");
        Asked.due("27 what waits", hall.row(4, 0), "d(c(x0))=c(d(x0))");
    }

    /** d(x0) always becomes x0 by a conditional rule: that counts for nothing here. */
    private static void completionIsPlain() {
        Rewritehall hall = Asked.hall(0, 1, 2, 1, 1);
        Asked.push(hall, "d(x0)", "x0", "a", "a");
        hall.condition();
        Asked.push(hall, "e(d(a))");
        Asked.due("23 a full redex", hall.redexes(), 1);
        Asked.tell(hall, "d(b(a))=b(a)");
        Asked.due("27 the left side", hall.complete() + " " + hall.row(3, 0), "1 d(b(a))>b(a)");
        Asked.tell(hall, "b(b(a))=d(b(b(a)))");
        Asked.due("27 the right side", hall.complete() + " " + hall.row(3, 1), "2 d(b(b(a)))>b(b(a))");
        Asked.tell(hall, "e(x0)=d(x0)", "c(x0,x0)=x0");
        Asked.due("27 an old right side", hall.finish(2) + " " + hall.row(3, 2), "2 e(x0)>d(x0)");
        Asked.due("41 ends", hall.ends(2), 2);
        Rewritehall met = Asked.hall(0, 1, 2, 1, 2);
        Asked.push(met, "d(x0)", "x0", "a", "a");
        met.condition();
        takes(met, "e(a,x0)=d(x0)", "e(x0,a)=x0");
        Asked.due("25 the end of left", met.overlap(0, 3) + " " + met.overlap(0, 4), "d(a) a");
        Asked.due("26 that is missing", met.missing(), 0);
        Asked.due("27 it becomes a rule", met.complete() + " " + met.row(3, 2), "1 d(a)>a");
    }

    private static void finishTakesOneToTwelve() {
        for (int most = 1; most <= 12; most++) {
            Rewritehall hall = Full.waiting(15);
            int n = most;
            Asked.due("28 so many", hall.finish(n) + " " + hall.many(9), n + " " + (n + 2));
        }
        Rewritehall hall = Full.waiting(15);
        Asked.refusedOutside("28 no such number", hall, ARGUMENT, 1, 12, n -> hall.finish(n));
        Rewritehall empty = new Rewritehall();
        Asked.refusedOutside("28 no such number, though nothing waits", empty, ARGUMENT, 1, 12, n -> empty.finish(n));
        Asked.due("28 nothing waits", empty.finish(1) + empty.finish(12), 0);
    }

    private static void finishEndsWhereAStepIsRefused() {
        Rewritehall hall = Full.rules(10);
        Asked.due("28 up to the last rule that may be", hall.finish(12) + " " + hall.many(3), "4 14");
        String before = Asked.state(hall);
        Asked.due("28 none", hall.finish(12), 0);
        Asked.due("28 nothing is changed", Asked.state(hall), before);
        Rewritehall few = Asked.hall(0, 1);
        Asked.tell(few, "b(a)=a", "b(b(a))=a", "a=a");
        Asked.due("28 as long as something waits", few.finish(12) + " " + few.many(9) + " " + few.many(8), "3 3 2");
    }

    private static void restartTakesEachEquation() {
        Asked.due("29 none", new Rewritehall().restart(), 0);
        Rewritehall hall = Full.waiting(120);
        Asked.push(hall, "a", "b(x0)");
        int age = hall.many(10);
        Asked.due("29 nine of 120", hall.restart() + " " + hall.many(4) + " " + hall.many(2), "9 9 9");
        Asked.due("29 ages go on", hall.many(10), age + 9);
        Asked.due("29 all else stays", hall.many(0) + " " + Asked.rows(hall, 1) + " " + hall.many(9), "5 a b(x0) 9");
        Asked.due("29 no rules", hall.many(3) + " " + hall.many(5) + " " + hall.many(6), "0 0 0");
        Rewritehall ten = Asked.hall(0, 1);
        ten.order(1);
        for (int k = 0; k < 10; k++) {
            Asked.tell(ten, b(k % 3, "x0") + "=" + b(2 - k % 3, "x1"));
        }
        String waits = Asked.rows(ten, 4);
        ten.finish(12);
        Asked.due("29 all ten, as they stood", ten.restart() + " " + Asked.rows(ten, 4), "10 " + waits);
        Asked.due("29 the order stays", ten.many(7), 1);
    }

    /** What was made ahead of a restart, or of a step that was refused, leaves no trace in what is made behind it. */
    private static void restartIsLikeANewHall() {
        for (int n = 0; n < 3; n++) {
            Rewritehall hall = new Rewritehall();
            hall.example(2 - n, true);
            hall.finish(12);
            for (int run = 1; run < 4; run++) {
                hall.example(n, false);
                hall.finish(4 * run);
                hall.restart();
                Rewritehall other = new Rewritehall();
                other.example(n, false);
                for (int k = 0; k < 10; k++) {
                    Asked.due("28 as in a new hall", hall.finish(12), other.finish(12));
                    Asked.due("29 rules", Asked.rows(hall, 3), Asked.rows(other, 3));
                    Asked.due("29 what waits", Asked.rows(hall, 4), Asked.rows(other, 4));
                    for (int i = 0; i < hall.many(3); i++) {
                        Asked.due("29 uses of " + hall.row(3, i), hall.ofRule(i, 2), other.ofRule(i, 2));
                    }
                    Asked.due("45 sound", hall.isSound() + " " + other.isSound(), "true true");
                }
            }
        }
    }

    private static void exampleTakesThree() {
        Rewritehall hall = Full.unturned(6);
        Asked.push(hall, "b(x0)", "a", "x0", "a");
        hall.condition();
        Asked.push(hall, "x0", "x1");
        Asked.refusedOutside("30 no such example", hall, ARGUMENT, 0, 2, n -> hall.example(n, true));
        Asked.refusedOutside("30 no such example", hall, ARGUMENT, 0, 2, n -> hall.example(n, false));
        int[][] counts = {{3, 10}, {4, 4}, {4, 8}};
        for (int k = 0; k < 6; k++) {
            boolean isFinished = k % 2 == 1;
            int due = counts[k / 2][k % 2];
            Asked.due("30 " + k, hall.example(k / 2, isFinished), due);
            Asked.due("30 all of them wait", hall.many(2) + " " + hall.many(4), due + " " + due);
            Asked.due("30 and nothing else",
                hall.many(1) + hall.many(3) + hall.many(5) + hall.many(6) + hall.many(7), 0);
        }
    }

    private static void exampleKeepsFourCounts() {
        Rewritehall hall = Asked.hall(0, 1);
        Asked.tell(hall, "a=a", "b(a)=a");
        hall.finish(12);
        hall.knock();
        hall.knock();
        hall.knock();
        int[] ahead = {1, 2, 2, 3};
        int[] behind = {1, 2, 5, 3};
        for (int k = 0; k < 4; k++) {
            Asked.due("30 ahead " + k, hall.many(8 + k), ahead[k]);
        }
        hall.example(0, false);
        for (int k = 0; k < 4; k++) {
            Asked.due("30 behind " + k, hall.many(8 + k), behind[k]);
        }
    }

    private static void manyTakesTwelve() {
        Rewritehall hall = Asked.hall(0);
        Asked.refusedOutside("31 no such what", hall, ARGUMENT, 0, 11, n -> hall.many(n));
        Asked.due("31 the first and the last", hall.many(0) + " " + hall.many(11), "1 0");
    }

    private static void rowTakesSeven() {
        Rewritehall hall = Full.rules(3);
        for (int i : new int[] {-1, 0, 200}) {
            Asked.refusedOutside("32 no such row, named first", hall, ARGUMENT, 0, 6, n -> hall.row(n, i));
        }
        Asked.refused("32 no row of the order", hall, ARGUMENT, () -> hall.row(7, 0));
    }

    private static void rowTakesAsManyAsThereAre() {
        Rewritehall hall = Full.rules(14);
        for (int k = 0; k < 4; k++) {
            Asked.push(hall, "b(x0)", "x0", "a", "a");
            hall.condition();
        }
        for (int k = 0; k < 8; k++) {
            hall.variable(k % 6);
        }
        int[] counts = {5, 8, 2, 14, 3, 0, 4};
        for (int what = 0; what < 7; what++) {
            int n = what;
            int count = counts[what];
            Asked.due("31 " + what, hall.many(what), count);
            Asked.due("32 the last of " + what, count == 0 || hall.row(what, count - 1).length() > 1, true);
            Asked.refusedOutside("32 behind the last of " + what, hall, INDEX, 0, count - 1, i -> hall.row(n, i));
        }
        Asked.due("32 the last ones", hall.row(0, 4) + " " + hall.row(1, 7) + " " + hall.row(6, 3),
            "e21 x1 b(x0)>x0|a=a");
        Rewritehall unturned = Full.unturned(6);
        Asked.due("32 the sixth unturned one", unturned.row(5, 5), "c(" + b(5, "x0") + ",x1)=c(x1," + b(5, "x0") + ")");
        Asked.refused("32 a seventh unturned one", unturned, INDEX, () -> unturned.row(5, 6));
        Rewritehall waiting = Full.waiting(120);
        Asked.due("32 the first that waits", waiting.row(4, 0), "e(a,a)=" + Full.RIGHT);
        Asked.due("32 the last that waits", waiting.row(4, 119),
            "e(" + Asked.nested("d", 7, "a") + "," + b(14, "a") + ")=" + Full.RIGHT);
        Asked.refused("32 one more that waits", waiting, INDEX, () -> waiting.row(4, 120));
    }

    private static void rowOfWhatWaits() {
        Rewritehall hall = Full.waiting(120);
        int size = 0;
        for (int i = 0; i < 120; i++) {
            int next = hall.row(4, i).replaceAll("[^a-e]", "").length();
            Asked.due("32 by sizes", next >= size, true);
            size = next;
        }
        int ofNext = hall.row(4, 0).length();
        hall.complete();
        Asked.due("32 the next one is not as small", hall.row(4, 0).length() >= ofNext, true);
    }

    private static void ofRuleTakesEachRule() {
        Rewritehall empty = Asked.hall(0);
        Asked.refusedOutside("33 no rule, and no such what", empty, INDEX, 0, -1, n -> empty.ofRule(n, 3));
        Rewritehall hall = Full.rules(14);
        Asked.due("33 the first rule", hall.ofRule(0, 0) + " " + hall.ofRule(0, 1) + " " + hall.ofRule(0, 2), "18 7 1");
        Asked.due("33 the last rule", hall.ofRule(13, 0) + " " + hall.ofRule(13, 1) + " " + hall.ofRule(13, 2),
            "14 7 2");
        for (int what = -1; what < 4; what++) {
            int n = what;
            Asked.refusedOutside("33 no such rule, named first", hall, INDEX, 0, 13, i -> hall.ofRule(i, n));
        }
        Asked.refusedOutside("33 no such what", hall, ARGUMENT, 0, 2, n -> hall.ofRule(13, n));
    }

    /** Each letter has 38 of the one ahead of it in its chain; the last one has 34 or 35 of these. */
    private static void ofRuleAnswersAMillionAtMost() {
        for (int many = 34; many <= 35; many++) {
            Rewritehall hall = Asked.hall(1, 1, 1, 1, 1);
            takes(hall, "a(a(x0))=x0");
            for (int k = 1; k < 5; k++) {
                String letter = String.valueOf((char) ('a' + k));
                String below = String.valueOf((char) ('a' + k - 1));
                Asked.tell(hall, letter + "(x0)=" + Asked.nested(below, k < 4 ? 38 : many, "x0"));
                Asked.due("27 " + letter, hall.complete() + " " + hall.row(3, k), "1 " + letter + "(x0)>x0");
            }
            Asked.due("33 28919 uses", hall.ofRule(3, 2), 28919);
            Asked.due("33 so many uses", hall.ofRule(4, 2), many == 34 ? 34 * 28919 + 1 : 1000000);
        }
    }
}
