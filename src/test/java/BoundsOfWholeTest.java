import java.math.BigInteger;

/**
 * Promises 39 to 46 at their edges: the last one that is kept, the first one that is not, which exception comes first
 * if several apply, and that a call that is refused changes nothing.
 */
public final class BoundsOfWholeTest {
    private static final Class<?> ARGUMENT = IllegalArgumentException.class;
    private static final Class<?> STATE = IllegalStateException.class;

    private BoundsOfWholeTest() {
    }

    public static void main(String[] args) {
        sumFormTakesATop();
        sumFormCountsEachSum();
        sumFormTakesSize40();
        sumFormSortsSignBySign();
        likeSumsTakesTwo();
        endsTakeSixSizes();
        endsTake200();
        endsTake200WithARule();
        tablesTakeTwoOrThreeValues();
        tablesTake2048();
        tablesOfTheFirstAndTheLast();
        tableTakesTwoTerms();
        tableTakes2048();
        tableTellsTheFirst();
        knockCounts();
        isSoundTakes40Uses();
        isSoundTakesWhatIsNotKept();
        digestWrapsAround();
        digestOfAllRows();
        Asked.finish("BoundsOfWholeTest");
    }

    private static void sumFormTakesATop() {
        Rewritehall hall = Asked.hall(0, 2);
        hall.sum(1, true);
        Asked.refused("39 none", hall, STATE, () -> hall.sumForm());
        Asked.push(hall, "b(x1,a)", "b(x1,x0)");
        Asked.due("39 the top alone", hall.sumForm() + " " + Asked.rows(hall, 1), "1 b(x1,a) b(x0,x1)");
        Asked.due("39 once more", hall.sumForm() + " " + Asked.rows(hall, 1), "1 b(x1,a) b(x0,x1)");
    }

    private static void summed(Rewritehall hall, String term, int sums, String form) {
        Asked.push(hall, term);
        Asked.due("39 " + term, hall.sumForm() + " " + hall.text(0), sums + " " + form);
        hall.drop();
    }

    private static void sumFormCountsEachSum() {
        Rewritehall hall = Asked.hall(0, 2, 2, 1);
        summed(hall, "b(x0,a)", 0, "b(x0,a)");
        summed(hall, "x0", 0, "x0");
        summed(hall, "a", 0, "a");
        hall.sum(1, true);
        summed(hall, "x0", 0, "x0");
        summed(hall, "a", 0, "a");
        summed(hall, "c(x0,a)", 0, "c(x0,a)");
        summed(hall, "b(x0,a)", 1, "b(a,x0)");
        summed(hall, "b(a,a)", 1, "b(a,a)");
        summed(hall, "c(b(x0,a),d(b(x1,a)))", 2, "c(b(a,x0),d(b(a,x1)))");
        hall.sum(2, true);
        summed(hall, "c(b(x0,a),d(b(x1,a)))", 3, "c(b(a,x0),d(b(a,x1)))");
        summed(hall, "c(d(b(x1,a)),b(x0,a))", 3, "c(b(a,x0),d(b(a,x1)))");
        hall.sum(1, false);
        summed(hall, "c(d(b(x1,a)),b(x0,a))", 1, "c(b(x0,a),d(b(x1,a)))");
    }

    private static void sumFormTakesSize40() {
        Rewritehall hall = Asked.hall(0, 2, 1);
        hall.sum(1, true);
        String left = "b(".repeat(19) + "x0" + ",a)".repeat(19);
        summed(hall, left, 19, "b(a,".repeat(19) + "x0" + ")".repeat(19));
        summed(hall, "c(" + left + ")", 19, "c(" + "b(a,".repeat(19) + "x0" + ")".repeat(19) + ")");
        summed(hall, Asked.nested("c", 39, "a"), 0, Asked.nested("c", 39, "a"));
    }

    /** ASCII: "(" and ")" and "," are ahead of digits, these of letters, x behind all others. */
    private static void sumFormSortsSignBySign() {
        Rewritehall hall = Asked.hall(0, 2, 2, 1, 0);
        hall.sum(1, true);
        summed(hall, "b(x1,x0)", 1, "b(x0,x1)");
        summed(hall, "b(x0,e)", 1, "b(e,x0)");
        summed(hall, "b(e,d(x0))", 1, "b(d(x0),e)");
        summed(hall, "b(d(x0),d(e))", 1, "b(d(e),d(x0))");
        summed(hall, "b(d(d(a)),d(c(e,e)))", 1, "b(d(c(e,e)),d(d(a)))");
        summed(hall, "b(c(a,x5),c(a,x4))", 1, "b(c(a,x4),c(a,x5))");
        summed(hall, "b(c(e,a),c(a,x5))", 1, "b(c(a,x5),c(e,a))");
        summed(hall, "b(b(x5,x4),b(x3,b(x2,b(x1,x0))))", 5, "b(x0,b(x1,b(x2,b(x3,b(x4,x5)))))");
        summed(hall, "c(x1,x0)", 0, "c(x1,x0)");
    }

    private static void likeSumsTakesTwo() {
        Rewritehall hall = Asked.hall(0, 2);
        hall.sum(1, true);
        Asked.refused("40 none", hall, STATE, () -> hall.likeSums());
        Asked.push(hall, "b(x0,b(a,x1))");
        Asked.refused("40 one", hall, STATE, () -> hall.likeSums());
        Asked.push(hall, "b(b(x1,x0),a)");
        String before = Asked.state(hall);
        Asked.due("40 two", hall.likeSums(), true);
        Asked.due("40 nothing is changed", Asked.state(hall), before);
        hall.sum(1, false);
        Asked.due("40 no sum", hall.likeSums(), false);
        Asked.push(hall, "a", "a", "x0", "x0", "x0", "x0");
        Asked.due("40 two of eight", hall.likeSums(), true);
    }

    private static void endsTakeSixSizes() {
        Rewritehall hall = Asked.hall(0, 1);
        Asked.refusedOutside("41 no such size", hall, ARGUMENT, 1, 6, n -> hall.ends(n));
        for (int size = 1; size <= 6; size++) {
            Asked.due("41 one of each size", hall.ends(size), 1);
        }
        Rewritehall none = new Rewritehall();
        Asked.refusedOutside("41 no such size without symbols", none, ARGUMENT, 1, 6, n -> none.ends(n));
        Rewritehall open = Asked.hall(1, 2);
        Asked.due("41 without constants", open.ends(1) + open.ends(6), 0);
        Rewritehall full = Asked.hall(0, 0, 1, 2, 2);
        Asked.refused("41 far too many", full, STATE, () -> full.ends(6));
        Asked.refusedOutside("41 the size is named first", full, ARGUMENT, 1, 6, n -> full.ends(n));
    }

    /** With two constants 2, 4, 8, 16, 32, 64 of each size, with three 3, 6, 12, 24, 48, 96. */
    private static void endsTake200() {
        Rewritehall hall = Asked.hall(0, 0, 1, 1);
        for (int size = 1; size <= 6; size++) {
            Asked.due("41 126 in all", hall.ends(size), 1 << size);
        }
        hall.symbol(0, 1);
        int due = 3;
        for (int size = 1; size <= 6; size++) {
            Asked.due("41 189 in all", hall.ends(size), due);
            due *= 2;
        }
        Rewritehall four = Asked.hall(0, 1, 1, 1, 0);
        Asked.due("41 2, 6, 18, 54: 80 in all", four.ends(4), 54);
        Asked.refused("41 242 in all", four, STATE, () -> four.ends(5));
        Asked.due("41 still 80 in all", four.ends(4), 54);
    }

    /** b, c and d around a or e: rules leave out some of them, the last ones just so many that 200 are left. */
    private static void endsTake200WithARule() {
        Rewritehall hall = Asked.hall(0, 1, 1, 1, 0);
        Asked.tell(hall, "b(e)=e", "c(e)=e");
        hall.finish(2);
        // Around e there are 1, 1, 3, 9, 27 of each size, around a 1, 3, 9, 27, 81.
        int[] dues = {2, 4, 12, 36, 108};
        for (int size = 1; size <= 5; size++) {
            Asked.due("41 162 in all, size " + size, hall.ends(size), dues[size - 1]);
        }
        Asked.refused("41 486 in all", hall, STATE, () -> hall.ends(6));
        Rewritehall just = Asked.hall(0, 1, 1, 1, 0);
        Asked.tell(just, "b(e)=e");
        just.finish(1);
        // Around e there are 1, 2, 6, 18, 54 now.
        Asked.due("41 67 in all", just.ends(4), 18 + 27);
        Asked.refused("41 202 in all", just, STATE, () -> just.ends(5));
        Asked.tell(just, "b(b(b(b(a))))=a");
        just.finish(1);
        Asked.refused("41 201 in all", just, STATE, () -> just.ends(5));
        Asked.tell(just, "c(c(c(c(a))))=a");
        just.finish(1);
        Asked.due("41 200 in all", just.ends(5), 54 + 81 - 2);
    }

    private static void tablesTakeTwoOrThreeValues() {
        Rewritehall hall = Asked.hall(0);
        Asked.refusedOutside("42 no such number of values", hall, ARGUMENT, 2, 3, n -> hall.tables(n));
        Asked.due("42 as many as values", hall.tables(2) + " " + hall.tables(3), "2 3");
        Rewritehall large = Asked.hall(2, 2, 2, 2, 2);
        Asked.refused("42 far too many of two", large, STATE, () -> large.tables(2));
        Asked.refused("42 far too many of three", large, STATE, () -> large.tables(3));
        Asked.refusedOutside("42 the number of values is named first", large, ARGUMENT, 2, 3, n -> large.tables(n));
        Asked.refusedOutside("43 the number of values is named first", large, ARGUMENT, 2, 3, n -> large.table(n));
        Asked.push(large, "x0", "x1");
        Asked.refusedOutside("43 the number of values ahead of the bound", large, ARGUMENT, 2, 3, n -> large.table(n));
        Asked.refused("43 far too many of two", large, STATE, () -> large.table(2));
    }

    private static void tablesTake2048() {
        int[][] kept = {{2, 2, 1, 0}, {2, 1, 1, 1, 0}};
        int[][] refused = {{2, 2, 1, 1}, {2, 2, 2}, {2, 2, 1, 0, 0}, {2, 1, 1, 1, 1}};
        for (int[] arities : kept) {
            Asked.due("42 11 entries of two values", Asked.hall(arities).tables(2), 2048);
        }
        for (int[] arities : refused) {
            Rewritehall hall = Asked.hall(arities);
            Asked.refused("42 12 entries of two values", hall, STATE, () -> hall.tables(2));
            Asked.refused("42 more entries of three values", hall, STATE, () -> hall.tables(3));
        }
        Asked.due("42 six entries of three values", Asked.hall(1, 0, 0, 0).tables(3), 729);
        Asked.due("42 five entries of three values", Asked.hall(0, 0, 0, 0, 0).tables(3), 243);
        Rewritehall seven = Asked.hall(1, 0, 0, 0, 0);
        Asked.refused("42 seven entries of three values", seven, STATE, () -> seven.tables(3));
        Asked.due("42 six entries of two values", seven.tables(2), 64);
        Rewritehall nine = Asked.hall(2);
        Asked.refused("42 nine entries of three values", nine, STATE, () -> nine.tables(3));
        Asked.due("42 four entries of two values", nine.tables(2), 16);
    }

    /** All entries alike: with two values those are the first ones and the last ones of 2048. */
    private static void tablesOfTheFirstAndTheLast() {
        Rewritehall hall = Asked.hall(2, 2, 1, 0);
        Asked.tell(hall, "a(x0,x1)=d", "b(x0,x1)=d", "c(x0)=d");
        Asked.due("42 the first and the last", hall.tables(2), 2);
        Rewritehall three = Asked.hall(1, 0, 0, 0);
        Asked.tell(three, "a(x0)=b", "b=c", "c=d");
        Asked.due("42 the first, the middle, and the last", three.tables(3), 3);
        Asked.tell(three, "x5=x3");
        Asked.due("42 none", three.tables(3) + three.tables(2), 0);
        Asked.push(three, "x0", "x1");
        Asked.due("43 none", three.table(3), "-");
    }

    private static void tableTakesTwoTerms() {
        Rewritehall hall = Asked.hall(0, 1);
        for (int k = 0; k < 2; k++) {
            Asked.refused("43 two values, " + k, hall, STATE, () -> hall.table(2));
            Asked.refused("43 three values, " + k, hall, STATE, () -> hall.table(3));
            Asked.refusedOutside("43 the number of values is named first", hall, ARGUMENT, 2, 3, n -> hall.table(n));
            Asked.push(hall, "b(a)");
        }
        Asked.due("43 like in all", hall.table(2) + " " + hall.table(3), "- -");
        Asked.push(hall, "a");
        Asked.due("43 unlike in the first of these", hall.table(2) + " " + hall.table(3), "0,10 0,100");
        Asked.push(hall, "x0", "x1", "x2", "x3", "x5");
        Asked.due("43 two of eight", hall.table(2), "0,00");
    }

    private static void tableTakes2048() {
        Rewritehall hall = Asked.hall(2, 2, 1, 0);
        Asked.tell(hall, "a(x0,x1)=c(d)", "b(x0,x1)=a(x1,x0)");
        Asked.push(hall, "c(c(x0))", "d");
        Asked.due("43 of 2048", hall.table(2), "0000,0000,00,1");
        hall.drop();
        Asked.push(hall, "c(x0)");
        Asked.due("43 another one of 2048", hall.table(2), "0000,0000,10,1");
        hall.symbol(0, 1);
        Asked.refused("43 of 4096", hall, STATE, () -> hall.table(2));
        Rewritehall three = Asked.hall(1, 0, 0, 0);
        Asked.push(three, "b", "d");
        Asked.due("43 of 729", three.table(3), "000,0,0,1");
        three.symbol(0, 1);
        Asked.refused("43 of 2187", three, STATE, () -> three.table(3));
    }

    /** The first argument changes slowest, and the entries of the symbol 0 come first. */
    private static void tableTellsTheFirst() {
        Rewritehall hall = Asked.hall(0, 2);
        Asked.tell(hall, "b(a,x0)=x0");
        Asked.push(hall, "b(x0,a)", "a");
        Asked.due("43 the first argument changes slowest", hall.table(2), "0,0110");
        hall.drop();
        Asked.push(hall, "x0");
        Asked.due("43 of which the first", hall.table(2), "0,0100");
        Asked.tell(hall, "b(x0,x0)=x0");
        hall.drop();
        Asked.push(hall, "a");
        Asked.due("43 as both are true", hall.table(2), "0,0111");
        Asked.tell(hall, "b(x0,x1)=b(x1,x0)");
        Asked.due("43 as all are true", hall.table(2) + " " + hall.tables(2), "0,0111 2");
    }

    private static void knockCounts() {
        Rewritehall hall = new Rewritehall();
        for (int k = 1; k <= 20; k++) {
            Asked.due("44 so many", hall.knock() + " " + hall.many(11), k + " " + k);
            hall.example(k % 3, k % 2 == 0);
            hall.restart();
        }
        Asked.due("44 another one", new Rewritehall().knock(), 1);
    }

    /** a(a(x0)) > x0 has one use, b(x0) > x0 has 20, c(x0) > x0 has 40 or 41 or 42. */
    private static void isSoundTakes40Uses() {
        String[] rights = {"b(" + Asked.nested("a", 38, "x0") + ")", "b(b(x0))", "b(b(a(a(x0))))"};
        for (int k = 0; k < 3; k++) {
            Rewritehall hall = Asked.hall(1, 1, 1);
            Asked.tell(hall, "a(a(x0))=x0", "b(x0)=" + Asked.nested("a", 38, "x0"));
            hall.finish(2);
            Asked.tell(hall, "c(x0)=" + rights[k]);
            hall.finish(1);
            Asked.due("33 uses", hall.row(3, 2) + " " + hall.ofRule(2, 2), "c(x0)>x0 " + (40 + k));
            Asked.due("45 sound", hall.isSound(), true);
            Asked.due("46 its digest", hall.digest(), digestOf(hall));
        }
    }

    private static void isSoundTakesWhatIsNotKept() {
        Rewritehall hall = Asked.hall(0, 1, 1, 2, 2);
        String many = "d(" + Asked.nested("c", 10, "x0") + "," + Asked.nested("c", 3, "x0") + ")";
        for (String equation : new String[] {"e(a,x0)=" + many, "e(x0,a)=" + many, "c(a)=b(a)", "c(b(x0))=b(c(x0))"}) {
            Asked.tell(hall, equation);
            hall.complete();
        }
        Asked.due("45 four rules, and nothing waits", hall.many(3) + " " + hall.many(4) + " " + hall.many(5), "4 0 0");
        Asked.refused("26 61 steps", hall, STATE, () -> hall.missing());
        Asked.due("45 sound", hall.isSound(), true);
        Asked.due("46 its digest", hall.digest(), digestOf(hall));
    }

    /** By numbers of any length, of which the last 64 bits are taken at the end alone. */
    private static long digestOf(Rewritehall hall) {
        BigInteger d = BigInteger.valueOf(6107);
        for (int what = 0; what < 12; what++) {
            d = with(d, hall.many(what));
        }
        for (int what = 0; what < 7; what++) {
            for (int i = 0; i < hall.many(what); i++) {
                String row = hall.row(what, i);
                for (int k = 0; k < row.length(); k++) {
                    d = with(d, row.charAt(k));
                }
                d = with(d, 10);
            }
        }
        for (int i = 0; i < hall.many(3); i++) {
            d = with(d, hall.ofRule(i, 2));
        }
        return with(d, hall.isSound() ? 1 : 0).longValue();
    }

    private static BigInteger with(BigInteger d, int v) {
        return d.multiply(BigInteger.valueOf(31)).add(BigInteger.valueOf(v));
    }

    private static void digestWrapsAround() {
        Rewritehall hall = new Rewritehall();
        long due = BigInteger.valueOf(6107).multiply(BigInteger.valueOf(31).pow(13)).add(BigInteger.ONE).longValue();
        Asked.due("46 of an empty hall", hall.digest(), due);
        Asked.due("46 once more", hall.digest(), due);
        boolean isBelow = false;
        boolean isAbove = false;
        for (int k = 0; k < 20; k++) {
            hall.knock();
            isBelow = isBelow || hall.digest() < 0;
            isAbove = isAbove || hall.digest() > 0;
            Asked.due("46 of " + k, hall.digest(), digestOf(hall));
            hall.variable(k % 6);
            if (k % 3 == 0) {
                hall.drop();
            } else if (hall.many(1) == 8) {
                Asked.drop(hall, 7);
            }
        }
        Asked.due("46 below and above 0", isBelow + " " + isAbove, "true true");
    }

    private static void digestOfAllRows() {
        Rewritehall hall = Full.rules(14);
        hall.sum(4, true);
        for (int k = 0; k < 4; k++) {
            Asked.push(hall, "b(x0)", "x0", "a", "a");
            hall.condition();
        }
        Asked.tell(hall, "c(x0,x1)=c(x1,x0)", "a=a");
        hall.finish(2);
        for (int k = 0; k < 8; k++) {
            hall.variable(k % 6);
        }
        hall.knock();
        Asked.due("46 all rows", hall.digest(), digestOf(hall));
        Rewritehall waiting = Full.waiting(120);
        Asked.due("46 120 that wait", waiting.digest(), digestOf(waiting));
    }
}
