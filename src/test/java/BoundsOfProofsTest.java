import java.util.NoSuchElementException;

/**
 * Promises 34 to 38 at their edges: the last one that is kept, the first one that is not, which exception comes first
 * if several apply, and that a call that is refused changes nothing.
 */
public final class BoundsOfProofsTest {
    private static final Class<?> STATE = IllegalStateException.class;
    private static final Class<?> INDEX = IndexOutOfBoundsException.class;
    private static final Class<?> NONE = NoSuchElementException.class;
    private static final int[] INDICES = {Integer.MIN_VALUE, -1, 0, 1, 300, 301, Integer.MAX_VALUE};

    private BoundsOfProofsTest() {
    }

    public static void main(String[] args) {
        proofsTakeTwoTerms();
        proofsTakeAlikeEnds();
        proofsOfOneTerm();
        proofsTake60StepsOfEach();
        proofsTakeSize40OfEach();
        proofsNameBoundsAheadOfEnds();
        proofsTake300Uses();
        proofsTake300UsesOfBoth();
        proofsWithoutAlikeEndsHaveNoUses();
        proofsTakeTermsOfAnySize();
        proofUsesAreEachOfTheRow();
        proofsGoByPlainSteps();
        usesOfUnturnedOnes();
        proofsBehindAStepThatIsRefused();
        Asked.finish("BoundsOfProofsTest");
    }

    /** All five calls, or all but same(), throw that for whatever index. */
    private static void refused(String what, Rewritehall hall, Class<?> exception, boolean isSameToo) {
        if (isSameToo) {
            Asked.refused("34 " + what, hall, exception, () -> hall.same());
        }
        Asked.refused("35 " + what, hall, exception, () -> hall.proofSize());
        for (int index : INDICES) {
            Asked.refused("36 " + what + ", " + index, hall, exception, () -> hall.proofUse(index));
            Asked.refused("37 " + what + ", " + index, hall, exception, () -> hall.proofTerm(index));
        }
        Asked.refused("38 " + what, hall, exception, () -> hall.isProved());
    }

    /** The proof has so many uses, the last ones can be asked for, and nothing behind them. */
    private static void proved(String what, Rewritehall hall, int uses) {
        Asked.due("34 " + what, hall.same(), true);
        Asked.due("35 " + what, hall.proofSize(), uses);
        Asked.due("37 " + what + ", the first term", hall.proofTerm(0), hall.text(1));
        Asked.due("37 " + what + ", the last term", hall.proofTerm(uses), hall.text(0));
        if (uses > 0) {
            Asked.due("36 " + what + ", the first use", hall.proofUse(0).matches("[0-9][<>][0-9]+"), true);
            Asked.due("36 " + what + ", the last use", hall.proofUse(uses - 1).matches("[0-9][<>][0-9]+"), true);
        }
        Asked.refusedOutside("36 " + what + ", no such use", hall, INDEX, 0, uses - 1, n -> hall.proofUse(n));
        Asked.refusedOutside("37 " + what + ", no such term", hall, INDEX, 0, uses, n -> hall.proofTerm(n));
        Asked.due("38 " + what, hall.isProved(), true);
    }

    private static void proofsTakeTwoTerms() {
        Rewritehall hall = Asked.hall(0, 1);
        refused("none", hall, STATE, true);
        Asked.push(hall, "a");
        refused("one", hall, STATE, true);
        Asked.push(hall, "a");
        proved("two", hall, 0);
        Asked.push(hall, "x0", "x1", "x2", "x3", "x4", "x4");
        proved("two of eight", hall, 0);
    }

    private static void proofsTakeAlikeEnds() {
        Rewritehall hall = Asked.hall(0, 1);
        Asked.tell(hall, "b(b(x0))=x0");
        Asked.push(hall, "b(b(a))", "a");
        Asked.due("34 an equation is no rule yet", hall.same(), false);
        refused("not alike yet", hall, NONE, false);
        hall.complete();
        proved("alike now", hall, 1);
        hall.apply(1);
        Asked.due("34 not alike", hall.same(), false);
        refused("not alike", hall, NONE, false);
        hall.restart();
        refused("not alike behind a restart", hall, NONE, false);
    }

    private static void proofsOfOneTerm() {
        Rewritehall hall = Asked.hall(0, 1);
        Asked.tell(hall, "b(b(x0))=x0");
        hall.complete();
        Asked.push(hall, "b(x3)", "b(x3)");
        proved("a term and itself, an end", hall, 0);
        Asked.push(hall, "b(b(x3))", "b(b(x3))");
        proved("a term and itself, no end", hall, 2);
        Asked.due("36 there and back", hall.proofUse(0) + " " + hall.proofTerm(1) + " " + hall.proofUse(1),
            "0>0 x3 0<0");
    }

    private static void proofsTake60StepsOfEach() {
        Rewritehall hall = Full.sorting();
        Asked.push(hall, Full.sixty("c(a)"), Full.sorted("c(a)"));
        proved("60 steps of the second", hall, 60);
        hall.exchange();
        proved("60 steps of the top", hall, 60);
        hall.drop();
        hall.again(0);
        Asked.push(hall, Full.sixty("c(a)"), Full.sixty("c(a)"));
        proved("60 steps of each", hall, 120);
        Asked.push(hall, Full.sixty("c(b(a))"), Full.sorted("b(c(a))"));
        refused("61 steps of the second", hall, STATE, true);
        hall.exchange();
        refused("61 steps of the top", hall, STATE, true);
    }

    private static void proofsTakeSize40OfEach() {
        Rewritehall hall = Asked.hall(0, 1, 2, 1);
        Asked.tell(hall, "d(x0)=c(x0,x0)");
        hall.complete();
        String b = Asked.nested("b", 18, "a");
        Asked.push(hall, "b(d(" + b + "))", "b(c(" + b + "," + b + "))");
        proved("size 40 of the second", hall, 1);
        hall.exchange();
        proved("size 40 of the top", hall, 1);
        Asked.push(hall, "b(b(d(" + b + ")))", "a");
        refused("size 41 of the second", hall, STATE, true);
        hall.exchange();
        refused("size 41 of the top", hall, STATE, true);
    }

    private static void proofsNameBoundsAheadOfEnds() {
        Rewritehall hall = Full.sorting();
        Asked.push(hall, Full.sixty("c(a)"), Full.sixty("c(b(a))"));
        refused("61 steps of the top, and not alike", hall, STATE, true);
        hall.exchange();
        refused("61 steps of the second, and not alike", hall, STATE, true);
        Asked.push(hall, Full.sixty("a"), Full.sixty("c(a)"));
        Asked.due("34 60 steps of each, and not alike", hall.same(), false);
        refused("60 steps of each, and not alike", hall, NONE, false);
    }

    /** a(a(x0)) > x0 has one use, b(x0) > x0 has 20. */
    private static Rewritehall twenty() {
        Rewritehall hall = Asked.hall(1, 1, 2);
        Asked.tell(hall, "a(a(x0))=x0", "b(x0)=" + Asked.nested("a", 38, "x0"));
        hall.finish(2);
        Asked.due("33 uses", hall.ofRule(0, 2) + " " + hall.ofRule(1, 2), "1 20");
        return hall;
    }

    private static void proofsTake300Uses() {
        Rewritehall hall = twenty();
        Asked.push(hall, Asked.nested("b", 14, "a(a(x0))"), "x0");
        proved("281 uses", hall, 281);
        Asked.push(hall, Asked.nested("b", 15, "x0"), "x0");
        proved("300 uses", hall, 300);
        hall.exchange();
        proved("300 uses, turned", hall, 300);
        Asked.push(hall, Asked.nested("b", 15, "a(a(x0))"), "x0");
        Asked.due("34 301 uses", hall.same(), true);
        refused("301 uses", hall, STATE, false);
        hall.exchange();
        refused("301 uses, turned", hall, STATE, false);
    }

    private static void proofsTake300UsesOfBoth() {
        Rewritehall hall = twenty();
        Asked.push(hall, Asked.nested("b", 7, "x0"), Asked.nested("b", 8, "x0"));
        proved("140 and 160 uses", hall, 300);
        Asked.push(hall, Asked.nested("b", 15, "x0"), Asked.nested("a", 2, "x0"));
        Asked.due("34 300 uses and one", hall.same(), true);
        refused("300 uses and one", hall, STATE, false);
        Asked.push(hall, Asked.nested("a", 2, "x0"), Asked.nested("b", 15, "x0"));
        refused("one and 300 uses", hall, STATE, false);
    }

    private static void proofsWithoutAlikeEndsHaveNoUses() {
        Rewritehall hall = twenty();
        Asked.push(hall, Asked.nested("b", 16, "x0"), "x1");
        Asked.due("34 not alike", hall.same(), false);
        refused("not alike behind 320 uses", hall, NONE, false);
    }

    private static void proofsTakeTermsOfAnySize() {
        Rewritehall hall = twenty();
        Asked.push(hall, Asked.nested("b", 3, "x0"), "x0");
        proved("60 uses", hall, 60);
        Asked.due("37 size 41 on the way", hall.proofTerm(1), Asked.nested("a", 38, "b(b(x0))"));
        Asked.push(hall, Asked.nested("b", 39, "x0"), Asked.nested("b", 38, "x0"));
        Asked.due("34 39 and 38 steps", hall.same(), true);
        refused("1540 uses", hall, STATE, false);
    }

    private static void proofUsesAreEachOfTheRow() {
        Rewritehall hall = twenty();
        Asked.push(hall, "c(a(a(x1)),b(x2))", "c(x1,x2)");
        proved("21 uses", hall, 21);
        Asked.due("36 the first one", hall.proofUse(0) + " " + hall.proofTerm(1), "0>1 c(x1,b(x2))");
        Asked.due("36 the second one", hall.proofUse(1) + " " + hall.proofTerm(2),
            "1>2 c(x1," + Asked.nested("a", 38, "x2") + ")");
        Asked.due("36 the third one", hall.proofUse(2) + " " + hall.proofTerm(3),
            "0>2 c(x1," + Asked.nested("a", 36, "x2") + ")");
        Asked.due("36 the last one", hall.proofUse(20) + " " + hall.proofTerm(20), "0>2 c(x1,a(a(x2)))");
        hall.exchange();
        proved("21 uses, turned", hall, 21);
        Asked.due("36 the last one, turned", hall.proofUse(20) + " " + hall.proofUse(19), "0<1 1<2");
    }

    private static void proofsGoByPlainSteps() {
        Rewritehall hall = Asked.hall(0, 1);
        Asked.push(hall, "b(x0)", "a", "x0", "a");
        hall.condition();
        Asked.push(hall, "b(a)", "a");
        Asked.due("20 a redex", hall.redexes() + " " + hall.ofPlace(0, 4), "0 0");
        Asked.due("34 the second is plain", hall.same(), false);
        refused("the second is plain", hall, NONE, false);
        hall.exchange();
        Asked.due("20 a full redex", hall.redexes() + " " + hall.steps(0), "1 1");
        Asked.due("34 the top is plain", hall.same(), false);
        refused("the top is plain", hall, NONE, false);
    }

    /** c(x0,b(x1)) = c(x1,x0) is used forth at c(d,b(a)), and back at c(d,a). */
    private static void usesOfUnturnedOnes() {
        Rewritehall hall = Asked.hall(0, 1, 2, 0);
        Asked.tell(hall, "c(x0,b(x1))=c(x1,x0)");
        Asked.due("27 unturned", hall.complete(), 3);
        String[][] cases = {{"c(d,a)", "c(a,b(d))", "0<0"}, {"c(a,b(d))", "c(d,a)", "0>0"},
            {"c(d,b(a))", "c(a,d)", "0>0"}, {"c(a,d)", "c(d,b(a))", "0<0"}};
        for (String[] one : cases) {
            Asked.push(hall, one[0], one[1]);
            proved(one[0] + " and " + one[1], hall, 1);
            Asked.due("36 " + one[0] + " and " + one[1], hall.proofUse(0), one[2]);
            Asked.drop(hall, 2);
        }
        Asked.push(hall, "b(c(d,a))", "b(c(a,b(d)))");
        proved("within", hall, 1);
        Asked.due("36 within", hall.proofUse(0), "0<1");
    }

    /**
     * b(..a) > a meets the first rule 15 times, and then the second one in what is too large. Two rules that come about
     * behind that are taken out by d(d(x0)) > b(x0), and come about again: their chains are their own.
     */
    private static void proofsBehindAStepThatIsRefused() {
        Rewritehall hall = Asked.hall(0, 1, 2, 1, 2);
        String[] ahead = {"e(a," + Asked.nested("b", 15, "x0") + ")=a", "e(b(x0)," + Asked.nested("d", 24, "a") + ")=a"};
        for (String equation : ahead) {
            Asked.tell(hall, equation);
            Asked.due("27 a rule", hall.complete(), 1);
        }
        Asked.tell(hall, Asked.nested("b", 15, "a") + "=a");
        Asked.refused("27 a peak of size 42", hall, STATE, () -> hall.complete());
        String[] behind = {"c(a,d(d(x0)))=x0", "c(d(d(x0)),a)=x0", "d(d(x0))=b(x0)"};
        for (String equation : behind) {
            Asked.tell(hall, equation);
            Asked.due("27 a rule", hall.complete(), 1);
        }
        Asked.due("27 both are taken out", Asked.rows(hall, 3).contains("c"), false);
        Asked.due("28 both come about again", hall.finish(2) + " " + hall.row(3, 2) + " " + hall.row(3, 3),
            "2 c(a,b(x0))>x0 c(b(x0),a)>x0");
        String[][] alike = {{"c(a,b(x3))", "x3"}, {"c(b(x3),a)", "x3"}};
        for (String[] two : alike) {
            Asked.push(hall, two[0], two[1]);
            proved(two[0] + " and " + two[1], hall, 2);
            Asked.drop(hall, 2);
        }
        Asked.due("45 sound", hall.isSound(), true);
    }
}
