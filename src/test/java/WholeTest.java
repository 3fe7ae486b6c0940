/** Promises 39 to 46: sums, ends of a size, tables, and the whole. */
public final class WholeTest {
    private static final Class<?> ARGUMENT = IllegalArgumentException.class;
    private static final Class<?> STATE = IllegalStateException.class;

    private WholeTest() {
    }

    public static void main(String[] args) {
        sumForm();
        sumsInSums();
        likeSums();
        ends();
        endsWithRules();
        tooManyEnds();
        tables();
        boundsOfTables();
        table();
        tablesWithoutSymbols();
        knock();
        isSound();
        isSoundThoughSomethingIsMissing();
        isSoundByLongTerms();
        digest();
        callsThatChangeNothing();
        Asked.finish("WholeTest");
    }

    private static String summed(Rewritehall hall, String term, int sums) {
        Asked.push(hall, term);
        Asked.due("39 sums of " + term, hall.sumForm(), sums);
        String text = hall.text(0);
        hall.drop();
        return text;
    }

    private static void sumForm() {
        Rewritehall hall = Asked.hall(0, 2, 2, 1, 0);
        Asked.refused("39 empty", hall, STATE, () -> hall.sumForm());
        Asked.due("39 no sum", summed(hall, "b(e,a)", 0), "b(e,a)");
        hall.sum(1, true);
        Asked.due("39 two items", summed(hall, "b(e,a)", 1), "b(a,e)");
        Asked.due("39 a variable", summed(hall, "x3", 0), "x3");
        Asked.due("39 put together anew", summed(hall, "b(b(x1,e),b(a,x0))", 3), "b(a,b(e,b(x0,x1)))");
        Asked.due("39 the same item twice", summed(hall, "b(e,b(a,e))", 2), "b(a,b(e,e))");
        Asked.due("39 other symbols are items", summed(hall, "b(c(e,a),b(a,d(b(e,a))))", 3), "b(a,b(c(e,a),d(b(a,e))))");
        Asked.due("39 arguments of others", summed(hall, "c(b(e,a),b(x1,a))", 2), "c(b(a,e),b(a,x1))");
        Asked.due("39 by texts", summed(hall, "b(x0,b(d(x0),b(d(a),b(c(x0,a),c(a,x0)))))", 4),
            "b(c(a,x0),b(c(x0,a),b(d(a),b(d(x0),x0))))");
        Asked.due("39 the same sum of other items", summed(hall, "b(d(b(e,a)),d(a))", 2), "b(d(a),d(b(a,e)))");
    }

    private static void sumsInSums() {
        Rewritehall hall = Asked.hall(0, 2, 2, 1, 0);
        hall.sum(1, true);
        hall.sum(2, true);
        Asked.due("39 sums of sums", summed(hall, "b(c(e,a),b(c(x0,a),a))", 4), "b(a,b(c(a,e),c(a,x0)))");
        Asked.due("39 c in b in c", summed(hall, "c(b(c(e,a),a),c(e,a))", 4), "c(a,c(b(a,c(a,e)),e))");
        hall.sum(1, false);
        Asked.due("39 a sum no more", summed(hall, "b(c(e,a),a)", 1), "b(c(a,e),a)");
        String large = "b(b(b(b(b(b(b(b(b(b(b(b(b(b(b(b(b(b(b(e,a),e),a),e),a),e),a),e),a),e),a),e),a),e),a),e),a),e),a)";
        hall.sum(1, true);
        Asked.due("39 twenty items", summed(hall, large, 19),
            "b(a,".repeat(10) + "b(e,".repeat(9) + "e" + ")".repeat(19));
    }

    private static void likeSums() {
        Rewritehall hall = Asked.hall(0, 2, 2, 1, 0);
        Asked.refused("40 empty", hall, STATE, () -> hall.likeSums());
        Asked.push(hall, "b(b(x0,e),a)");
        Asked.refused("40 one", hall, STATE, () -> hall.likeSums());
        Asked.push(hall, "b(a,b(e,x0))");
        Asked.due("40 no sums", hall.likeSums(), false);
        hall.sum(1, true);
        Asked.due("40 the same items", hall.likeSums(), true);
        Asked.due("40 nothing is changed", Asked.rows(hall, 1), "b(b(x0,e),a) b(a,b(e,x0))");
        Asked.push(hall, "b(a,b(e,x1))");
        Asked.due("40 other items", hall.likeSums(), false);
        Asked.push(hall, "b(b(a,e),b(x1,x1))");
        Asked.due("40 one item more", hall.likeSums(), false);
    }

    private static void ends() {
        Rewritehall hall = Asked.hall(0, 1, 0);
        Asked.refused("41 0", hall, ARGUMENT, () -> hall.ends(0));
        Asked.refused("41 7", hall, ARGUMENT, () -> hall.ends(7));
        for (int size = 1; size <= 6; size++) {
            Asked.due("41 without rules", hall.ends(size), 2);
            Asked.due("41 without symbols", new Rewritehall().ends(size), 0);
        }
        Rewritehall trees = Asked.hall(0, 2);
        int[] wants = {1, 0, 1, 0, 2, 0};
        for (int size = 1; size <= 6; size++) {
            Asked.due("41 trees of size " + size, trees.ends(size), wants[size - 1]);
        }
    }

    private static void endsWithRules() {
        Rewritehall hall = Asked.hall(0, 1, 0);
        Asked.tell(hall, "b(b(x0))=x0");
        hall.complete();
        int[] wants = {2, 2, 0, 0, 0, 0};
        for (int size = 1; size <= 6; size++) {
            Asked.due("41 by a rule, of size " + size, hall.ends(size), wants[size - 1]);
        }
        Rewritehall turned = Asked.hall(0, 2, 0);
        Asked.tell(turned, "b(x0,x1)=b(x1,x0)");
        Asked.due("41 without it", turned.ends(3), 4);
        turned.complete();
        Asked.due("41 with the unturned one", turned.ends(3), 3);
        Asked.due("41 of size 5", turned.ends(5), 6);
        Rewritehall guarded = Asked.hall(0, 1);
        Asked.push(guarded, "b(x0)", "x0", "x0", "x0");
        guarded.condition();
        Asked.due("41 plain", guarded.ends(6), 1);
    }

    private static void tooManyEnds() {
        Rewritehall hall = Asked.hall(0, 0, 2, 0);
        Asked.due("41 3", hall.ends(1), 3);
        Asked.due("41 9", hall.ends(3), 9);
        Asked.due("41 54, 66 in all", hall.ends(5), 54);
        Asked.due("41 none more", hall.ends(6), 0);
        Rewritehall four = Asked.hall(0, 0, 2, 0, 0);
        Asked.due("41 128, 148 in all", four.ends(5), 128);
        Rewritehall more = Asked.hall(0, 0, 2, 1, 0);
        Asked.due("41 3, 3, 12, 30: 48 in all", more.ends(4), 30);
        Asked.due("41 111 more", more.ends(5), 111);
        Asked.refused("41 far too many", more, STATE, () -> more.ends(6));
        Asked.refused("41 wrong and too many", more, ARGUMENT, () -> more.ends(7));
        Rewritehall just = Asked.hall(0, 1, 1, 1);
        Asked.due("41 121 in all", just.ends(5), 81);
        Asked.refused("41 364 in all", just, STATE, () -> just.ends(6));
        Rewritehall bound = Asked.hall(0, 0, 1, 1, 1);
        Asked.tell(bound, "c(a)=a", "e(e(e(e(b))))=b");
        bound.finish(12);
        Asked.due("41 54 less 9 that end with c(a)", bound.ends(4), 45);
        Asked.refused("41 201 in all", bound, STATE, () -> bound.ends(5));
        Asked.tell(bound, "d(d(d(d(b))))=b");
        bound.finish(12);
        Asked.due("41 200 in all", bound.ends(5), 162 - 27 - 2);
    }

    private static void tables() {
        Rewritehall hall = Asked.hall(0, 2);
        Asked.refused("42 1", hall, ARGUMENT, () -> hall.tables(1));
        Asked.refused("42 4", hall, ARGUMENT, () -> hall.tables(4));
        Asked.due("42 all of two values", hall.tables(2), 32);
        Asked.tell(hall, "b(a,x0)=x0");
        Asked.due("42 a row is told", hall.tables(2), 8);
        Asked.tell(hall, "b(x0,x1)=b(x1,x0)");
        Asked.due("42 turned", hall.tables(2), 4);
        Asked.tell(hall, "x0=x1");
        Asked.due("42 none", hall.tables(2), 0);
        Rewritehall unary = Asked.hall(1, 1);
        Asked.tell(unary, "a(b(x0))=x0");
        Asked.due("42 pairs of turns of three values", unary.tables(3), 6);
        Asked.due("42 of two values", unary.tables(2), 2);
    }

    private static void boundsOfTables() {
        Rewritehall hall = Asked.hall(2, 2, 1, 0);
        Asked.due("42 2048 tables", hall.tables(2), 2048);
        hall.symbol(0, 1);
        Asked.refused("42 4096 tables", hall, STATE, () -> hall.tables(2));
        Asked.refused("42 wrong and too many", hall, ARGUMENT, () -> hall.tables(4));
        Rewritehall three = Asked.hall(1, 1);
        Asked.due("42 729 tables", three.tables(3), 729);
        three.symbol(0, 1);
        Asked.refused("42 2187 tables", three, STATE, () -> three.tables(3));
        Asked.push(three, "x0", "x1");
        Asked.refused("43 2187 tables", three, STATE, () -> three.table(3));
        Asked.refused("42 nine entries", Asked.hall(2), STATE, () -> Asked.hall(2).tables(3));
    }

    private static void table() {
        Rewritehall hall = Asked.hall(0, 2, 1);
        Asked.refused("43 empty", hall, STATE, () -> hall.table(2));
        Asked.push(hall, "b(x0,x1)");
        Asked.refused("43 one", hall, STATE, () -> hall.table(2));
        Asked.refused("43 1", hall, ARGUMENT, () -> hall.table(1));
        Asked.refused("43 4", hall, ARGUMENT, () -> hall.table(4));
        Asked.push(hall, "b(x1,x0)");
        Asked.due("43 not turned", hall.table(2), "0,0010,00");
        hall.drop();
        hall.drop();
        Asked.push(hall, "x0", "a");
        Asked.due("43 the very first ones", hall.table(2), "0,0000,00");
        hall.drop();
        hall.drop();
        Asked.push(hall, "c(a)", "c(c(a))");
        Asked.due("43 the first ones", hall.table(2), "0,0000,10");
        Asked.tell(hall, "a=c(a)");
        Asked.push(hall, "c(a)", "c(c(a))");
        Asked.due("43 alike in all", hall.table(2), "-");
        Asked.push(hall, "b(x5,a)", "b(x5,x4)");
        Asked.due("43 by other variables", hall.table(2), "0,0001,00");
        Rewritehall unary = Asked.hall(1, 1);
        Asked.tell(unary, "a(b(x0))=x0");
        Asked.push(unary, "a(x0)", "b(x0)");
        Asked.due("43 alike with two values", unary.table(2), "-");
        Asked.due("43 unlike with three", unary.table(3), "120,201");
    }

    private static void tablesWithoutSymbols() {
        Rewritehall hall = new Rewritehall();
        Asked.due("42 one, of nothing", hall.tables(2), 1);
        Asked.push(hall, "x0", "x0");
        Asked.due("43 like", hall.table(3), "-");
        Asked.push(hall, "x4");
        Asked.due("43 unlike", hall.table(3), "");
        hall.equation();
        Asked.due("42 none makes that true", hall.tables(2), 0);
        Asked.push(hall, "x1");
        Asked.due("43 none", hall.table(3), "-");
    }

    private static void knock() {
        Rewritehall hall = new Rewritehall();
        Asked.due("44 first", hall.knock(), 1);
        Asked.due("44 second", hall.knock(), 2);
        hall.example(1, true);
        hall.restart();
        Asked.due("44 third", hall.knock(), 3);
        Asked.due("31 refused", hall.many(11), 3);
    }

    private static void isSound() {
        Asked.due("45 at first", new Rewritehall().isSound(), true);
        Rewritehall hall = new Rewritehall();
        hall.example(0, false);
        Asked.due("45 nothing made", hall.isSound(), true);
        for (int k = 0; k < 30; k++) {
            hall.finish(4);
            Asked.due("45 after some steps", hall.isSound(), true);
        }
        hall.example(2, true);
        while (hall.finish(1) == 1) {
            Asked.due("45 rings", hall.isSound(), true);
        }
        Rewritehall turned = Asked.hall(2, 0);
        Asked.tell(turned, "a(x0,x1)=a(x1,x0)", "a(b,x0)=x0");
        turned.finish(12);
        Asked.due("45 with an unturned one", turned.isSound(), true);
    }

    private static void isSoundThoughSomethingIsMissing() {
        Rewritehall hall = Asked.hall(1, 1);
        Asked.tell(hall, "a(a(a(b(x0))))=a(b(a(x0)))");
        for (int k = 0; k < 3; k++) {
            hall.complete();
        }
        Asked.due("26 an overlap is missing", hall.missing(), 2);
        Asked.due("45 but something waits", hall.isSound() && hall.many(4) > 0, true);
    }

    private static String comb(int leaves) {
        return "e(".repeat(leaves - 1) + "x0" + ",x0)".repeat(leaves - 1);
    }

    private static String code(int k, String x) {
        return "c(" + Asked.nested("b", k, "d(" + x + ")") + ")";
    }

    /** The chain of each rule goes by the one ahead of it, of what is many times as long: millions of signs at last. */
    private static void isSoundByLongTerms() {
        Rewritehall hall = Asked.hall(0, 1, 1, 1, 2);
        Asked.tell(hall, comb(20) + "=" + code(1, "x0"));
        hall.complete();
        Asked.tell(hall, comb(20) + "=" + code(0, "x0"));
        hall.complete();
        for (int k = 0; k < 4; k++) {
            for (int side = 1; side >= 0; side--) {
                Asked.tell(hall, code(2 * k + side, comb(19 - k)) + "=" + code(2 * k + 2 + side, "x0"));
                Asked.due("27 a rule", hall.complete(), 1);
            }
            Asked.due("33 two more uses", hall.ofRule(2 * k + 3, 2), 2 * k + 4);
            Asked.due("24 no overlaps", hall.overlaps() + hall.many(4) + hall.many(5), 0);
            Asked.due("45 sound", hall.isSound(), true);
        }
        Asked.due("46 by its parts", hall.digest(), checked(hall));
    }

    private static long checked(Rewritehall hall) {
        long d = 6107;
        for (int what = 0; what < 12; what++) {
            d = d * 31 + hall.many(what);
        }
        for (int what = 0; what < 7; what++) {
            for (int i = 0; i < hall.many(what); i++) {
                for (char sign : hall.row(what, i).toCharArray()) {
                    d = d * 31 + sign;
                }
                d = d * 31 + 10;
            }
        }
        for (int i = 0; i < hall.many(3); i++) {
            d = d * 31 + hall.ofRule(i, 2);
        }
        return d * 31 + (hall.isSound() ? 1 : 0);
    }

    private static void digest() {
        Rewritehall hall = new Rewritehall();
        for (int n = 0; n < 3; n++) {
            hall.example(n, n == 1);
            Asked.push(hall, "b(x0,a)", "c(a)".substring(0, n == 0 ? 4 : 0) + (n == 0 ? "" : "x5"));
            hall.knock();
            for (int k = 0; k < 5; k++) {
                hall.finish(3);
                Asked.due("46 by its parts", hall.digest(), checked(hall));
            }
        }
        hall.restart();
        Asked.push(hall, "d(x0)", "x0", "x0", "a", "d(x0)");
        hall.drop();
        hall.condition();
        Asked.due("46 with a conditional one", hall.digest(), checked(hall));
        long before = hall.digest();
        hall.knock();
        Asked.due("46 it changes with all", hall.digest() == before, false);
    }

    private static void callsThatChangeNothing() {
        Rewritehall hall = new Rewritehall();
        hall.example(0, true);
        hall.finish(12);
        Asked.push(hall, "b(b(x0,a),c(x0))", "b(x0,c(b(a,x0)))");
        String before = Asked.state(hall);
        hall.text(0);
        hall.ofTerm(1, 3);
        hall.ofPlace(2, 4);
        hall.match();
        hall.unify(true);
        hall.unify(false);
        hall.compare(0);
        hall.compare(1);
        hall.steps(0);
        hall.steps(2);
        hall.redexes();
        hall.overlaps();
        hall.overlap(0, 3);
        hall.missing();
        hall.ofRule(0, 2);
        hall.same();
        hall.proofSize();
        hall.proofTerm(0);
        hall.isProved();
        hall.likeSums();
        hall.ends(3);
        hall.isSound();
        Asked.due("46 nothing is changed", Asked.state(hall), before);
    }
}
