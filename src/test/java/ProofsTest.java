import java.util.NoSuchElementException;

/** Promises 34 to 38: whether two terms have alike ends, and the uses of equations that show it. */
public final class ProofsTest {
    private static final Class<?> STATE = IllegalStateException.class;
    private static final Class<?> INDEX = IndexOutOfBoundsException.class;
    private static final Class<?> NONE = NoSuchElementException.class;

    private ProofsTest() {
    }

    public static void main(String[] args) {
        withoutTwoTerms();
        endsNotAlike();
        same();
        anEmptyProof();
        usesOfOneRule();
        usesInsideAndBack();
        usesOfARuleThatWasFound();
        theMidstOfAProof();
        variablesThatAreGone();
        unturnedUses();
        groups();
        aBoundThatIsJustKept();
        aChainAtTheBound();
        aBoundOfSteps();
        aProofOfWhatAnOldRuleSaid();
        longTerms();
        veryLongTexts();
        placesBeyondAllNumbers();
        Asked.finish("ProofsTest");
    }

    private static void withoutTwoTerms() {
        Rewritehall hall = Asked.hall(0, 1);
        for (int k = 0; k < 2; k++) {
            Asked.refused("34 " + k, hall, STATE, () -> hall.same());
            Asked.refused("35 " + k, hall, STATE, () -> hall.proofSize());
            Asked.refused("36 " + k, hall, STATE, () -> hall.proofUse(-1));
            Asked.refused("37 " + k, hall, STATE, () -> hall.proofTerm(-1));
            Asked.refused("38 " + k, hall, STATE, () -> hall.isProved());
            Asked.push(hall, "a");
        }
    }

    private static void endsNotAlike() {
        Rewritehall hall = Asked.hall(0, 1);
        Asked.push(hall, "a", "b(a)");
        Asked.due("34 not alike", hall.same(), false);
        Asked.refused("35", hall, NONE, () -> hall.proofSize());
        Asked.refused("36", hall, NONE, () -> hall.proofUse(-1));
        Asked.refused("37", hall, NONE, () -> hall.proofTerm(-1));
        Asked.refused("38", hall, NONE, () -> hall.isProved());
    }

    private static void same() {
        Rewritehall hall = Asked.hall(0, 1);
        Asked.tell(hall, "b(b(x0))=x0");
        Asked.push(hall, "b(b(b(a)))", "b(a)");
        Asked.due("34 told, but no rule", hall.same(), false);
        hall.complete();
        Asked.due("34 by a rule", hall.same(), true);
        Asked.due("34 nothing is changed", Asked.rows(hall, 1), "b(b(b(a))) b(a)");
        Asked.push(hall, "a");
        Asked.due("34 others", hall.same(), false);
    }

    private static void anEmptyProof() {
        Rewritehall hall = Asked.hall(0, 1);
        Asked.push(hall, "b(x3)", "b(x3)");
        Asked.due("35 no use", hall.proofSize(), 0);
        Asked.due("37 one term", hall.proofTerm(0), "b(x3)");
        Asked.due("38 proved", hall.isProved(), true);
        Asked.refused("36 0", hall, INDEX, () -> hall.proofUse(0));
        Asked.refused("36 -1", hall, INDEX, () -> hall.proofUse(-1));
        Asked.refused("37 1", hall, INDEX, () -> hall.proofTerm(1));
        Asked.refused("37 -1", hall, INDEX, () -> hall.proofTerm(-1));
    }

    /** All uses and terms of the proof of what lies on the stack. */
    private static String proof(Rewritehall hall) {
        StringBuilder all = new StringBuilder(hall.proofTerm(0));
        for (int i = 0; i < hall.proofSize(); i++) {
            all.append(' ').append(hall.proofUse(i)).append(' ').append(hall.proofTerm(i + 1));
        }
        return all.toString();
    }

    private static String proof(Rewritehall hall, String first, String second) {
        Asked.push(hall, first, second);
        String all = proof(hall);
        Asked.due("38 " + first + " " + second, hall.isProved(), true);
        hall.drop();
        hall.drop();
        return all;
    }

    private static void usesOfOneRule() {
        Rewritehall hall = Asked.hall(0, 1);
        Asked.tell(hall, "a=a", "b(b(x0))=x0");
        hall.finish(12);
        Asked.due("36 forth", proof(hall, "b(b(b(b(a))))", "a"), "b(b(b(b(a)))) 1>0 b(b(a)) 1>0 a");
        Asked.due("36 back", proof(hall, "b(x4)", "b(b(b(x4)))"), "b(x4) 1<0 b(b(b(x4)))");
        Asked.due("36 both", proof(hall, "b(b(x1))", "b(b(x1))"), "b(b(x1)) 1>0 x1 1<0 b(b(x1))");
    }

    private static void usesInsideAndBack() {
        Rewritehall hall = Asked.hall(0, 1, 2);
        Asked.tell(hall, "x0=c(x0,a)");
        Asked.due("27 exchanged", hall.complete(), 2);
        Asked.due("36 a rule forth is the equation back", proof(hall, "b(c(c(x1,a),b(a)))", "b(c(x1,c(b(a),a)))"),
            "b(c(c(x1,a),b(a))) 0<2 b(c(x1,b(a))) 0>3 b(c(x1,c(b(a),a)))");
    }

    /** c > b (0 forth), d > c becomes d > b, .. */
    private static void usesOfARuleThatWasFound() {
        Rewritehall hall = Asked.hall(0, 0, 0, 0, 2);
        Asked.tell(hall, "c=d", "b=c", "a=b");
        hall.finish(12);
        Asked.due("27 rules", Asked.rows(hall, 3), "d>a c>a b>a");
        Asked.due("36 three uses", proof(hall, "d", "a"), "d 0<0 c 1<0 b 2<0 a");
        Asked.due("36 turned", proof(hall, "a", "d"), "a 2>0 b 1>0 c 0>0 d");
        Asked.due("36 within", proof(hall, "e(x0,d)", "e(x0,b)"),
            "e(x0,d) 0<2 e(x0,c) 1<2 e(x0,b) 2<2 e(x0,a) 2>2 e(x0,b)");
    }

    /** c(b(x0),x1) = x1 and b(d) = a meet in c(b(d),x0), so that c(a,x0) = x0. */
    private static void theMidstOfAProof() {
        Rewritehall hall = Asked.hall(0, 1, 2, 0);
        Asked.tell(hall, "c(b(x0),x1)=x1", "b(d)=a");
        hall.finish(12);
        Asked.due("27 the rule", hall.row(3, 2), "c(a,x0)>x0");
        Asked.due("33 two uses", hall.ofRule(2, 2), 2);
        Asked.due("36 by the peak", proof(hall, "c(a,x3)", "x3"), "c(a,x3) 1<1 c(b(d),x3) 0>0 x3");
        Asked.due("36 the place goes with its term", proof(hall, "c(c(x0,x1),c(a,b(x1)))", "c(c(x0,x1),b(x1))"),
            "c(c(x0,x1),c(a,b(x1))) 1<5 c(c(x0,x1),c(b(d),b(x1))) 0>4 c(c(x0,x1),b(x1))");
    }

    /**
     * c(b(x0),x1) = x0 and c(x2,b(x3)) = a meet in c(b(x0),b(x1)), so that x0 = a: unturned. c(x0,d) = a and
     * c(x1,d) = b, say, meet in a peak with a variable that is in none of both sides: it becomes x0.
     */
    private static void variablesThatAreGone() {
        Rewritehall hall = Asked.hall(0, 0, 2, 0, 1);
        Asked.tell(hall, "c(x0,d)=a", "c(e(x0),x1)=b");
        hall.finish(12);
        Asked.due("27 the rule", hall.row(3, 2), "b>a");
        Asked.due("36 x0 stays x0", proof(hall, "e(b)", "e(a)"), "e(b) 1<1 e(c(e(x0),d)) 0>1 e(a)");
        Asked.due("36 whatever stands around", proof(hall, "c(x4,b)", "c(x4,a)"),
            "c(x4,b) 1<2 c(x4,c(e(x0),d)) 0>2 c(x4,a)");
        Rewritehall deeper = Asked.hall(0, 0, 2, 0, 1);
        Asked.tell(deeper, "c(x0,d)=a", "c(e(x0),x1)=b", "e(e(b))=b");
        deeper.finish(12);
        Asked.due("45 sound", deeper.isSound(), true);
        Asked.push(deeper, "e(e(a))", "b");
        Asked.due("34 alike", deeper.same(), true);
        Asked.due("38 proved", deeper.isProved(), true);
    }

    private static void unturnedUses() {
        Rewritehall hall = Asked.hall(0, 1, 2);
        Asked.tell(hall, "c(x1,x0)=c(x0,x1)");
        Asked.due("27 unturned", hall.complete(), 3);
        Asked.due("36 forth", proof(hall, "c(b(a),a)", "c(a,b(a))"), "c(b(a),a) 0>0 c(a,b(a))");
        Asked.due("36 back", proof(hall, "c(a,b(a))", "c(b(a),a)"), "c(a,b(a)) 0<0 c(b(a),a)");
        Asked.due("36 both", proof(hall, "c(b(b(a)),c(b(a),a))", "c(c(a,b(a)),b(b(a)))"),
            "c(b(b(a)),c(b(a),a)) 0>4 c(b(b(a)),c(a,b(a))) 0<0 c(c(a,b(a)),b(b(a)))");
        Asked.push(hall, "c(x0,x1)", "c(x1,x0)");
        Asked.due("34 variables are not turned", hall.same(), false);
    }

    private static void groups() {
        Rewritehall hall = new Rewritehall();
        hall.example(0, false);
        for (int k = 0; k < 9; k++) {
            hall.finish(12);
        }
        Asked.due("27 steps", hall.many(9), 105);
        Asked.due("27 nothing waits", hall.many(4), 0);
        Asked.due("27 ten rules", hall.many(3), 10);
        Asked.push(hall, "c(b(x0,x1))", "b(c(x1),c(x0))");
        int n = hall.proofSize();
        Asked.due("33 the last rule", hall.row(3, 9) + " " + hall.ofRule(9, 2), "c(b(x0,x1))>b(c(x1),c(x0)) 24");
        Asked.due("35 as many", n, 24);
        Asked.due("37 the first term", hall.proofTerm(0), "c(b(x0,x1))");
        Asked.due("37 the last term", hall.proofTerm(n), "b(c(x1),c(x0))");
        Asked.due("38 proved", hall.isProved(), true);
        Asked.refused("36 behind all", hall, INDEX, () -> hall.proofUse(n));
        Asked.refused("37 behind all", hall, INDEX, () -> hall.proofTerm(n + 1));
        for (int i = 0; i < n; i++) {
            String use = hall.proofUse(i);
            Asked.due("36 of three equations", use.charAt(0) >= '0' && use.charAt(0) <= '2', true);
        }
        Asked.due("45 sound", hall.isSound(), true);
    }

    /** Each d takes 15 uses, each c one, and each three b one more. */
    private static void aBoundThatIsJustKept() {
        Rewritehall loop = Asked.hall(0, 1, 1, 1);
        Asked.tell(loop, "c(x0)=b(x0)", "d(x0)=c(c(c(c(c(x0)))))");
        loop.finish(12);
        Asked.due("27 rules", Asked.rows(loop, 3), "c(x0)>b(x0) d(x0)>b(b(b(b(b(x0)))))");
        Asked.due("33 six", loop.ofRule(1, 2), 6);
        Asked.push(loop, Asked.nested("d", 7, "a"), Asked.nested("b", 35, "a"));
        Asked.due("35 seven times six", loop.proofSize(), 42);
        Asked.due("38 proved", loop.isProved(), true);
        Rewritehall far = Asked.hall(0, 1, 1, 1, 1);
        Asked.tell(far, "c(x0)=b(x0)", "b(b(b(x0)))=x0", "d(x0)=" + Asked.nested("c", 11, "x0"));
        far.finish(12);
        Asked.due("27 rules", Asked.rows(far, 3), "c(x0)>b(x0) b(b(b(x0)))>x0 d(x0)>b(b(x0))");
        Asked.due("33 fifteen", far.ofRule(2, 2), 15);
        Asked.push(far, Asked.nested("d", 18, "a"), "a");
        Asked.due("35 18 times 15, and 12 for 36 b", far.proofSize(), 282);
        far.exchange();
        Asked.due("35 turned", far.proofSize(), 282);
        far.exchange();
        far.drop();
        Asked.push(far, Asked.nested("c", 6, Asked.nested("b", 3, "a")));
        Asked.due("35 6 and 3 more", far.proofSize(), 291);
        far.drop();
        Asked.push(far, Asked.nested("c", 13, Asked.nested("b", 2, "a")));
        Asked.due("35 13 and 5 more", far.proofSize(), 300);
        Asked.due("38 300 uses", far.isProved(), true);
        Asked.due("37 the last term", far.proofTerm(300), far.text(0));
        far.drop();
        Asked.push(far, Asked.nested("c", 13, Asked.nested("b", 5, "a")));
        Asked.due("34 301 uses", far.same(), true);
        Asked.refused("35 301 uses", far, STATE, () -> far.proofSize());
        Asked.refused("36 301 uses", far, STATE, () -> far.proofUse(0));
        Asked.refused("37 301 uses", far, STATE, () -> far.proofTerm(0));
        Asked.refused("38 301 uses", far, STATE, () -> far.isProved());
    }

    /** b has 13 uses; c has 300, whether it is there ahead of the rule for b or behind it; d has one more. */
    private static void aChainAtTheBound() {
        for (int late = 0; late < 2; late++) {
            Rewritehall hall = Asked.hall(1, 1, 1, 1);
            String c = "c(x0)=" + Asked.nested("b", 23, "x0");
            Asked.tell(hall, "a(a(x0))=x0", "b(x0)=" + Asked.nested("a", 24, "x0"));
            if (late == 0) {
                Asked.tell(hall, c);
            }
            hall.finish(12);
            if (late == 1) {
                Asked.tell(hall, c);
            }
            Asked.tell(hall, "d(x0)=c(x0)");
            hall.finish(12);
            for (int k = 0; k < 4; k++) {
                int uses = hall.row(3, k).equals("c(x0)>x0") ? 300 : hall.row(3, k).equals("d(x0)>x0") ? 301
                    : hall.row(3, k).equals("b(x0)>x0") ? 13 : 1;
                Asked.due("33 uses of " + hall.row(3, k), hall.ofRule(k, 2), uses);
            }
            Asked.push(hall, "c(a(x3))", "a(x3)");
            Asked.due("35 300 uses of a rule", hall.proofSize(), 300);
            Asked.due("38 300 uses of a rule", hall.isProved(), true);
            Asked.due("37 within", hall.proofTerm(300), "a(x3)");
            Asked.push(hall, "d(x0)", "x0");
            Asked.refused("35 301 uses of a rule", hall, STATE, () -> hall.proofSize());
        }
    }

    private static void aBoundOfSteps() {
        Rewritehall hall = Asked.hall(0, 1, 2, 1);
        Asked.tell(hall, "d(x0)=c(x0,x0)");
        hall.complete();
        Asked.push(hall, "d(" + Asked.nested("b", 19, "a") + ")", "a");
        Asked.refused("34 size 41", hall, STATE, () -> hall.same());
        Asked.refused("35 size 41", hall, STATE, () -> hall.proofSize());
        Asked.refused("36 size 41", hall, STATE, () -> hall.proofUse(-1));
        Asked.refused("37 size 41", hall, STATE, () -> hall.proofTerm(-1));
        Asked.refused("38 size 41", hall, STATE, () -> hall.isProved());
        hall.exchange();
        Asked.refused("34 size 41 of the top", hall, STATE, () -> hall.same());
    }

    /** A use of a rule stays what it was, though the rule is taken out later. */
    private static void aProofOfWhatAnOldRuleSaid() {
        Rewritehall hall = Asked.hall(0, 1, 1, 1);
        Asked.tell(hall, "b(b(a))=a", "c(a)=b(b(a))", "b(x0)=x0");
        hall.finish(12);
        Asked.due("27 rules", Asked.rows(hall, 3), "b(x0)>x0 c(a)>a");
        Asked.due("36 by what was", proof(hall, "c(a)", "a"), "c(a) 1>0 b(b(a)) 2>0 b(a) 2>0 a");
    }

    /** So many x, all put together. */
    private static String comb(int leaves, String x) {
        return "e(".repeat(leaves - 1) + x + ("," + x + ")").repeat(leaves - 1);
    }

    private static String code(int k, String x) {
        return "c(" + Asked.nested("b", k, "d(" + x + ")") + ")";
    }

    /** code(2k + 1) = code(2k) by way of a comb of what it is of: the combs of combs get long. */
    private static void longTerms() {
        Rewritehall hall = Asked.hall(0, 1, 1, 1, 2);
        Asked.tell(hall, comb(20, "x0") + "=" + code(1, "x0"));
        hall.complete();
        Asked.tell(hall, comb(20, "x0") + "=" + code(0, "x0"));
        hall.complete();
        for (int k = 0; k < 2; k++) {
            for (int side = 1; side >= 0; side--) {
                Asked.tell(hall, code(2 * k + side, comb(19 - k, "x0")) + "=" + code(2 * k + 2 + side, "x0"));
                Asked.due("27 a rule", hall.complete(), 1);
            }
        }
        Asked.push(hall, code(5, "b(b(a))"), code(4, "b(b(a))"));
        Asked.due("35 six uses", hall.proofSize(), 6);
        Asked.due("38 proved", hall.isProved(), true);
        String x = "b(b(a))";
        String in = comb(18, x);
        String wide = comb(19, in);
        String[] terms = {code(5, x), code(3, in), code(1, wide), comb(20, wide), code(0, wide), code(2, in),
            code(4, x)};
        String[] uses = {"4<0", "2<0", "0<0", "1>0", "3>0", "5>0"};
        for (int i = 0; i < 7; i++) {
            Asked.due("37 term " + i, hall.proofTerm(i).equals(terms[i]), true);
            if (i < 6) {
                Asked.due("36 use " + i, hall.proofUse(i), uses[i]);
            }
        }
        hall.exchange();
        Asked.due("38 turned", hall.isProved(), true);
        Asked.due("37 turned", hall.proofTerm(3).equals(terms[3]), true);
    }

    /** As above with three combs more: the longest text has some fourteen millions of signs. */
    private static void veryLongTexts() {
        Rewritehall hall = Asked.hall(0, 1, 1, 1, 2);
        Asked.tell(hall, comb(20, "x0") + "=" + code(1, "x0"));
        hall.complete();
        Asked.tell(hall, comb(20, "x0") + "=" + code(0, "x0"));
        hall.complete();
        for (int k = 0; k < 4; k++) {
            for (int side = 1; side >= 0; side--) {
                Asked.tell(hall, code(2 * k + side, comb(19 - k, "x0")) + "=" + code(2 * k + 2 + side, "x0"));
                hall.complete();
            }
        }
        String x = "b(x3)";
        Asked.push(hall, code(9, x), code(8, x));
        Asked.due("35 ten uses", hall.proofSize(), 10);
        String due = x;
        for (int leaves = 16; leaves <= 20; leaves++) {
            due = comb(leaves, due);
        }
        Asked.due("37 how long", due.length() > 14000000, true);
        Asked.due("37 the longest one", hall.proofTerm(5).equals(due), true);
        Asked.due("37 a short one behind it", hall.proofTerm(10), code(8, x));
        Asked.due("36 the longest one", hall.proofUse(5), "1>0");
        Asked.due("11 a text behind it", hall.text(0), code(8, x));
        Asked.due("38 proved", hall.isProved(), true);
    }

    /** d(x, b(..)) = c(x, b(..)) by way of e(x, d(comb of x, ..)), and so on: each time the comb is of combs. */
    private static void placesBeyondAllNumbers() {
        Rewritehall hall = Asked.hall(0, 1, 2, 2, 2);
        String wide = comb(13, "x0");
        Asked.tell(hall, "d(x0,a)=c(x0,a)", "e(x0,d(" + wide + ",x1))=d(x0,b(x1))",
            "e(x0,c(" + wide + ",x1))=c(x0,b(x1))");
        hall.finish(12);
        hall.finish(12);
        int n = 11;
        Asked.due("33 the last rule", hall.row(3, n + 2) + " " + hall.ofRule(n + 2, 2),
            "d(x0," + Asked.nested("b", n, "a") + ")>c(x0," + Asked.nested("b", n, "a") + ") 23");
        String t = comb(10, "a");
        String b = Asked.nested("b", n, "a");
        Asked.push(hall, "d(" + t + "," + b + ")", "c(" + t + "," + b + ")");
        Asked.due("35 uses", hall.proofSize(), 2 * n + 1);
        long place = 0;
        long size = 19;
        for (int i = 0; i <= n; i++) {
            Asked.due("36 down " + i, hall.proofUse(i), (i < n ? "1<" : "0>") + place);
            if (i < n) {
                Asked.due("36 up " + i, hall.proofUse(2 * n - i), "2>" + place);
            }
            place += 1 + size;
            size = 13 * size + 12;
        }
        Asked.due("36 far above all int", hall.proofUse(n).length() > 14, true);
        Asked.due("37 the first term", hall.proofTerm(0), hall.text(1));
        Asked.due("37 a term", hall.proofTerm(1),
            "e(" + t + ",d(" + comb(13, t) + "," + Asked.nested("b", n - 1, "a") + "))");
        Asked.due("37 a long one", hall.proofTerm(4).length() > 100000, true);
        Asked.due("37 the last term", hall.proofTerm(2 * n + 1), hall.text(0));
        Asked.refused("37 no text is as long as that", hall, STATE, () -> hall.proofTerm(n));
        Asked.due("38 proved", hall.isProved(), true);
        Asked.due("45 sound", hall.isSound(), true);
        hall.exchange();
        Asked.due("36 turned", hall.proofUse(0), "2<0");
        Asked.due("38 turned", hall.isProved(), true);
    }
}
