/**
 * Promises 1 to 16 at their edges: the last one that is kept, the first one that is not, which exception comes first
 * if several apply, and that a call that is refused changes nothing.
 */
public final class BoundsOfTermsTest {
    private static final Class<?> ARGUMENT = IllegalArgumentException.class;
    private static final Class<?> STATE = IllegalStateException.class;
    private static final Class<?> INDEX = IndexOutOfBoundsException.class;

    private BoundsOfTermsTest() {
    }

    public static void main(String[] args) {
        aNewHallIsEmpty();
        aNewHallStandsAlone();
        symbolTakesThreeAritiesAndNineWeights();
        symbolTakesFive();
        sumNamesTheIndexFirst();
        sumTakesEachSymbolWithTwoArguments();
        variableTakesSix();
        theStackTakesEight();
        applyTakesSymbolsThatWereTold();
        applyTakesAsManyAsThereAre();
        applyTakesSize40();
        dropTakesTheLast();
        againTakesWhatIsThere();
        exchangeTakesTwo();
        partTakesEachPlace();
        putTakesEachPlaceOfTheSecond();
        putTakesSize40();
        textTakesEachTerm();
        ofTermAtTheEnds();
        ofTermNamesTheIndexFirst();
        ofPlaceAtTheEnds();
        ofPlaceNamesTheIndexFirst();
        ofPlaceNamesBoundsLast();
        matchAtTheEnds();
        unifyAtTheEnds();
        unifyLooksAtTheFirstPairFirst();
        unifyTakesSize40();
        compareAnswersFour();
        comparePathsClause();
        compareWeightsClause();
        compareNamesTheArgumentFirst();
        Asked.finish("BoundsOfTermsTest");
    }

    private static void aNewHallIsEmpty() {
        Rewritehall hall = new Rewritehall();
        for (int what = 0; what < 12; what++) {
            Asked.due("1 many(" + what + ")", hall.many(what), 0);
        }
        for (int what = 0; what < 7; what++) {
            int row = what;
            Asked.refused("1 row(" + what + ", 0)", hall, INDEX, () -> hall.row(row, 0));
        }
        Asked.refused("1 no symbol to apply", hall, INDEX, () -> hall.apply(0));
        Asked.refused("1 no symbol to be a sum", hall, INDEX, () -> hall.sum(0, true));
        Asked.refused("1 no rule", hall, INDEX, () -> hall.ofRule(0, 0));
        Asked.refused("1 no overlap", hall, INDEX, () -> hall.overlap(0, 0));
        Asked.due("1 no overlaps", hall.overlaps(), 0);
        Asked.due("1 none is missing", hall.missing(), -1);
        Asked.due("1 nothing waits", hall.complete() + " " + hall.finish(12) + " " + hall.restart(), "-1 0 0");
        Asked.due("1 one row of no tables", hall.tables(2) + " " + hall.tables(3), "1 1");
        Asked.due("1 sound", hall.isSound(), true);
        Asked.due("1 the order is 0", hall.order(0), 0);
    }

    private static void aNewHallStandsAlone() {
        Rewritehall one = Asked.hall(0, 1, 2);
        Asked.tell(one, "b(b(a))=a");
        one.complete();
        one.knock();
        Rewritehall other = new Rewritehall();
        for (int what = 0; what < 12; what++) {
            Asked.due("1 many(" + what + ") of another one", other.many(what), 0);
        }
        Asked.due("1 its first symbol", other.symbol(2, 9), 0);
        Asked.due("1 the other one keeps its own", Asked.rows(one, 0), "a01 b11 c21");
    }

    private static void symbolTakesThreeAritiesAndNineWeights() {
        for (int weight = 1; weight <= 9; weight++) {
            Rewritehall hall = new Rewritehall();
            for (int arity = 0; arity <= 2; arity++) {
                Asked.due("2 symbol " + arity + " " + weight, hall.symbol(arity, weight), arity);
                Asked.due("2 its row", hall.row(0, arity), "" + (char) ('a' + arity) + arity + weight);
            }
        }
        Rewritehall hall = new Rewritehall();
        Asked.refusedOutside("2 arity", hall, ARGUMENT, 0, 2, n -> hall.symbol(n, 1));
        Asked.refusedOutside("2 weight", hall, ARGUMENT, 1, 9, n -> hall.symbol(0, n));
        Asked.refusedOutside("2 weight with two arguments", hall, ARGUMENT, 1, 9, n -> hall.symbol(2, n));
        Asked.due("2 the first one behind these", hall.symbol(0, 1), 0);
    }

    private static void symbolTakesFive() {
        Rewritehall hall = new Rewritehall();
        for (int f = 0; f < 5; f++) {
            Asked.due("2 how many", hall.many(0), f);
            Asked.due("2 its number", hall.symbol(2 - f % 3, 9 - f), f);
        }
        Asked.due("2 five", Asked.rows(hall, 0), "a29 b18 c07 d26 e15");
        for (int arity = 0; arity < 3; arity++) {
            int n = arity;
            Asked.refused("2 a sixth", hall, STATE, () -> hall.symbol(n, 1));
        }
        Asked.refused("2 the arity is named first", hall, ARGUMENT, () -> hall.symbol(3, 1));
        Asked.refused("2 the weight is named first", hall, ARGUMENT, () -> hall.symbol(0, 0));
        hall.example(0, false);
        hall.symbol(2, 2);
        Asked.due("2 the fifth one behind an example", hall.symbol(2, 3), 4);
        Asked.refused("2 a sixth behind an example", hall, STATE, () -> hall.symbol(2, 3));
    }

    private static void sumNamesTheIndexFirst() {
        Rewritehall hall = Asked.hall(2, 0, 1, 2);
        Asked.refusedOutside("3 no symbol", hall, INDEX, 0, 3, n -> hall.sum(n, true));
        for (int f = 1; f <= 2; f++) {
            int n = f;
            Asked.refused("3 " + f + " has not two arguments", hall, ARGUMENT, () -> hall.sum(n, true));
            Asked.refused("3 " + f + " has not two arguments", hall, ARGUMENT, () -> hall.sum(n, false));
        }
        Asked.refused("3 not told yet", new Rewritehall(), INDEX, () -> new Rewritehall().sum(0, false));
    }

    private static void sumTakesEachSymbolWithTwoArguments() {
        Rewritehall hall = Asked.hall(2, 0, 1, 2, 2);
        Asked.due("3 the first symbol", hall.sum(0, true), false);
        Asked.due("3 the last symbol", hall.sum(4, true), false);
        Asked.due("3 both", Asked.rows(hall, 0), "a21+ b01 c11 d21 e21+");
        Asked.due("3 it was one", hall.sum(4, true), true);
        Asked.due("3 it is one still", hall.sum(4, false), true);
        Asked.due("3 no more", hall.sum(4, false), false);
        Asked.due("3 the other one stays", Asked.rows(hall, 0), "a21+ b01 c11 d21 e21");
        hall.restart();
        Asked.due("3 behind a restart, too", hall.row(0, 0), "a21+");
        hall.example(1, false);
        Asked.due("3 not behind an example", Asked.rows(hall, 0), "a01 b21 c21 d11");
    }

    private static void variableTakesSix() {
        Rewritehall hall = new Rewritehall();
        Asked.refusedOutside("4 no such variable", hall, ARGUMENT, 0, 5, n -> hall.variable(n));
        Asked.due("4 the first one", hall.variable(0), 1);
        Asked.due("4 the last one", hall.variable(5), 2);
        Asked.due("4 both", Asked.rows(hall, 1), "x0 x5");
    }

    private static void theStackTakesEight() {
        Rewritehall hall = Asked.hall(0, 1, 2);
        for (int k = 0; k < 7; k++) {
            hall.variable(k % 6);
        }
        Asked.due("4 an eighth one", hall.variable(5), 8);
        Asked.refused("4 a ninth one", hall, STATE, () -> hall.variable(0));
        Asked.refusedOutside("4 the number is named first", hall, ARGUMENT, 0, 5, n -> hall.variable(n));
        Asked.refused("5 a ninth one", hall, STATE, () -> hall.apply(0));
        Asked.refused("7 a ninth one", hall, STATE, () -> hall.again(7));
        Asked.refusedOutside("7 the index is named first", hall, INDEX, 0, 7, n -> hall.again(n));
        hall.drop();
        Asked.due("5 an eighth one", hall.apply(0), 1);
        hall.drop();
        Asked.due("7 an eighth one", hall.again(6), 8);
        Asked.due("7 that", Asked.rows(hall, 1), "x0 x1 x2 x3 x4 x5 x0 x0");
        Asked.due("5 one of eight", hall.apply(1), 2);
        Asked.due("5 two of eight", hall.apply(2), 4);
        Asked.due("1 seven", hall.many(1), 7);
    }

    private static void applyTakesSymbolsThatWereTold() {
        Rewritehall hall = Asked.hall(0, 1, 2);
        Asked.refusedOutside("5 the index is named first, on an empty stack", hall, INDEX, 0, 2, n -> hall.apply(n));
        for (int k = 0; k < 8; k++) {
            hall.variable(0);
        }
        Asked.refusedOutside("5 the index is named first, on a full stack", hall, INDEX, 0, 2, n -> hall.apply(n));
        Rewritehall five = Asked.hall(0, 0, 0, 0, 1);
        Asked.due("5 the fourth symbol", five.apply(3), 1);
        Asked.due("5 the fifth symbol", five.apply(4), 2);
        Asked.due("5 text", five.text(0), "e(d)");
        Asked.refused("5 the sixth symbol", five, INDEX, () -> five.apply(5));
    }

    private static void applyTakesAsManyAsThereAre() {
        Rewritehall hall = Asked.hall(0, 1, 2);
        Asked.refused("5 one of an empty stack", hall, STATE, () -> hall.apply(1));
        Asked.refused("5 two of an empty stack", hall, STATE, () -> hall.apply(2));
        hall.variable(1);
        Asked.refused("5 two of one", hall, STATE, () -> hall.apply(2));
        Asked.due("5 one of one", hall.apply(1), 2);
        hall.variable(0);
        Asked.due("5 two of two", hall.apply(2), 4);
        Asked.due("5 the top is the last argument", Asked.rows(hall, 1), "c(b(x1),x0)");
    }

    private static void applyTakesSize40() {
        Rewritehall hall = Asked.hall(0, 1, 2);
        Asked.push(hall, Asked.nested("b", 38, "x0"));
        Asked.due("5 size 40 by one argument", hall.apply(1), 40);
        Asked.refused("5 size 41 by one argument", hall, STATE, () -> hall.apply(1));
        Asked.push(hall, Asked.nested("b", 18, "a"), Asked.nested("b", 19, "x1"));
        Asked.due("5 size 40 by two arguments", hall.apply(2), 40);
        Asked.push(hall, Asked.nested("b", 19, "a"), Asked.nested("b", 19, "x1"));
        Asked.refused("5 size 41 by two arguments", hall, STATE, () -> hall.apply(2));
        hall.drop();
        hall.drop();
        Asked.refused("5 size 81 by two arguments", hall, STATE, () -> hall.apply(2));
        Asked.due("5 the top stays", hall.text(0), "c(" + Asked.nested("b", 18, "a") + "," + Asked.nested("b", 19, "x1")
            + ")");
    }

    private static void dropTakesTheLast() {
        Rewritehall hall = Asked.hall(0);
        for (int k = 0; k < 8; k++) {
            hall.apply(0);
        }
        for (int k = 7; k >= 0; k--) {
            Asked.due("6 how many are left", hall.drop(), k);
        }
        Asked.refused("6 none is left", hall, STATE, () -> hall.drop());
        Asked.due("6 one can be put there again", hall.apply(0) + " " + hall.many(1), "1 1");
    }

    private static void againTakesWhatIsThere() {
        Rewritehall hall = Asked.hall(0, 1);
        Asked.refusedOutside("7 of an empty stack", hall, INDEX, 0, -1, n -> hall.again(n));
        Asked.push(hall, "a", "x1", "b(a)");
        Asked.refusedOutside("7 of three", hall, INDEX, 0, 2, n -> hall.again(n));
        Asked.due("7 the lowest one", hall.again(2), 4);
        Asked.due("7 the top", hall.again(0), 5);
        Asked.due("7 the stack", Asked.rows(hall, 1), "a x1 b(a) a a");
    }

    private static void exchangeTakesTwo() {
        Rewritehall hall = Asked.hall(0, 1);
        Asked.refused("8 none", hall, STATE, () -> hall.exchange());
        Asked.push(hall, "b(a)");
        Asked.refused("8 one", hall, STATE, () -> hall.exchange());
        Asked.push(hall, "a");
        Asked.due("8 two", hall.exchange(), 2);
        Asked.push(hall, "x0", "x1", "x2", "x3", "x4", "x5");
        Asked.due("8 eight", hall.exchange(), 1);
        Asked.due("8 the two on top alone", Asked.rows(hall, 1), "a b(a) x0 x1 x2 x3 x5 x4");
    }

    private static void partTakesEachPlace() {
        Rewritehall hall = Asked.hall(0, 1, 2);
        Asked.refusedOutside("9 no top", hall, INDEX, 0, -1, n -> hall.part(n));
        Asked.refused("9 no top at 0", hall, INDEX, () -> hall.part(0));
        String[] parts = {"c(b(x0),c(a,x1))", "b(x0)", "x0", "c(a,x1)", "a", "x1"};
        int[] sizes = {6, 2, 1, 3, 1, 1};
        for (int place = 0; place < 6; place++) {
            Asked.push(hall, parts[0]);
            Asked.refusedOutside("9 no such place", hall, INDEX, 0, 5, n -> hall.part(n));
            Asked.due("9 at " + place, hall.part(place) + " " + hall.text(0), sizes[place] + " " + parts[place]);
            hall.drop();
        }
        Asked.push(hall, "a", Asked.nested("b", 39, "x2"));
        Asked.refused("9 at 40 of size 40", hall, INDEX, () -> hall.part(40));
        Asked.due("9 at 39 of size 40", hall.part(39) + " " + Asked.rows(hall, 1), "1 a x2");
        Asked.refused("9 of size 1", hall, INDEX, () -> hall.part(1));
    }

    private static void putTakesEachPlaceOfTheSecond() {
        Rewritehall hall = Asked.hall(0, 1, 2);
        Asked.refused("10 none", hall, INDEX, () -> hall.put(0));
        Asked.push(hall, "c(b(x0),c(a,x1))");
        Asked.refusedOutside("10 no second", hall, INDEX, 0, -1, n -> hall.put(n));
        Asked.refused("10 no second, at 0", hall, INDEX, () -> hall.put(0));
        String[] made = {"b(x2)", "c(b(x2),c(a,x1))", "c(b(b(x2)),c(a,x1))", "c(b(x0),b(x2))", "c(b(x0),c(b(x2),x1))",
            "c(b(x0),c(a,b(x2)))"};
        int[] sizes = {2, 6, 7, 5, 7, 7};
        for (int place = 0; place < 6; place++) {
            Asked.push(hall, "c(b(x0),c(a,x1))", "b(x2)");
            Asked.refusedOutside("10 no such place of the second", hall, INDEX, 0, 5, n -> hall.put(n));
            Asked.due("10 at " + place, hall.put(place) + " " + hall.text(0), sizes[place] + " " + made[place]);
            Asked.due("10 both are taken away", hall.many(1), 2);
            hall.drop();
        }
        Asked.push(hall, "a");
        Asked.refused("10 places of the second, not of the top", hall, INDEX, () -> hall.put(6));
    }

    private static void putTakesSize40() {
        Rewritehall hall = Asked.hall(0, 1, 2);
        Asked.push(hall, "c(x0," + Asked.nested("b", 18, "x1") + ")", Asked.nested("b", 18, "a"));
        Asked.due("10 size 39", hall.put(1), 39);
        Asked.push(hall, "b(x0)");
        Asked.due("10 size 40", hall.put(19), 40);
        Asked.push(hall, "b(x0)");
        Asked.refused("10 size 41", hall, STATE, () -> hall.put(20));
        Asked.refused("10 the place is named first", hall, INDEX, () -> hall.put(40));
        Asked.refused("10 the place is named first", hall, INDEX, () -> hall.put(-1));
        Asked.due("10 size 40 at the last place but one", hall.put(38), 40);
        Asked.push(hall, Asked.nested("b", 39, "x0"));
        Asked.refused("10 size 79", hall, STATE, () -> hall.put(1));
        Asked.due("10 size 40 for all", hall.put(0), 40);
    }

    private static void textTakesEachTerm() {
        Rewritehall hall = Asked.hall(0, 0, 0, 1, 2);
        Asked.refused("11 none", hall, INDEX, () -> hall.text(0));
        String[] texts = {"e(e(a,b),e(c,x3))", "e(x5,d(x4))", "d(x0)", "a", "b", "c", "x1", "x2"};
        Asked.push(hall, texts);
        for (int i = 0; i < 8; i++) {
            Asked.due("11 from the top on " + i, hall.text(i), texts[7 - i]);
        }
        Asked.refusedOutside("11 no such term", hall, INDEX, 0, 7, n -> hall.text(n));
    }

    private static void ofTermAtTheEnds() {
        Rewritehall hall = new Rewritehall();
        hall.symbol(0, 9);
        hall.symbol(1, 9);
        hall.symbol(2, 1);
        Asked.push(hall, "x5", Asked.nested("b", 39, "a"), "c(x0,c(x1,c(x2,c(x3,c(x4,x5)))))", "c(x0,c(x0,x0))",
            "c(a,b(b(a)))");
        int[][] wants = {{4 + 1, 4, 0, 1 + 9 + 9 + 9 + 9, -1}, {5, 3, 1, 5, 0}, {11, 6, 6, 11, 5},
            {40, 40, 0, 360, -1}, {1, 1, 1, 1, 5}};
        for (int i = 0; i < 5; i++) {
            for (int what = 0; what < 5; what++) {
                Asked.due("12 " + hall.text(i) + ", " + what, hall.ofTerm(i, what), wants[i][what]);
            }
        }
    }

    private static void ofTermNamesTheIndexFirst() {
        Rewritehall hall = Asked.hall(0);
        Asked.refused("12 none", hall, INDEX, () -> hall.ofTerm(0, 0));
        Asked.refused("12 none, and no such what", hall, INDEX, () -> hall.ofTerm(0, 5));
        Asked.push(hall, "a", "x0");
        Asked.refusedOutside("12 no such term", hall, INDEX, 0, 1, n -> hall.ofTerm(n, 4));
        Asked.refusedOutside("12 no such what", hall, ARGUMENT, 0, 4, n -> hall.ofTerm(1, n));
        Asked.refusedOutside("12 the index is named first", hall, INDEX, 0, 1, n -> hall.ofTerm(n, -1));
    }

    private static void ofPlaceAtTheEnds() {
        Rewritehall hall = Asked.hall(0, 1, 2, 0, 2);
        Asked.push(hall, "e(x5,c(b(d),x0))");
        int[][] wants = {{4, -1, 6, -1, 0}, {-1, 5, 1, 0, 0}, {2, -1, 4, 0, 0}, {1, -1, 2, 2, 0}, {3, -1, 1, 3, 0},
            {-1, 0, 1, 2, 0}};
        for (int place = 0; place < 6; place++) {
            for (int what = 0; what < 5; what++) {
                Asked.due("13 " + place + ", " + what, hall.ofPlace(place, what), wants[place][what]);
            }
        }
        Asked.push(hall, Asked.nested("b", 39, "a"));
        Asked.due("13 the last place of size 40", hall.ofPlace(39, 3) + " " + hall.ofPlace(39, 2), "38 1");
    }

    private static void ofPlaceNamesTheIndexFirst() {
        Rewritehall hall = Asked.hall(0, 1);
        for (int what = 0; what < 5; what++) {
            int n = what;
            Asked.refused("13 no top", hall, INDEX, () -> hall.ofPlace(0, n));
        }
        Asked.push(hall, "b(a)");
        for (int what = -1; what < 6; what++) {
            int n = what;
            Asked.refusedOutside("13 no such place, " + what, hall, INDEX, 0, 1, place -> hall.ofPlace(place, n));
        }
        Asked.refusedOutside("13 no such what", hall, ARGUMENT, 0, 4, n -> hall.ofPlace(1, n));
    }

    /** d(x0) > a, if c(x0,x0) becomes a: that is too large for 20 signs. */
    private static void ofPlaceNamesBoundsLast() {
        Rewritehall hall = Asked.hall(0, 1, 2, 1);
        Asked.push(hall, "d(x0)", "a", "c(x0,x0)", "a");
        hall.condition();
        Asked.push(hall, "d(" + Asked.nested("b", 19, "a") + ")");
        Asked.refused("13 a bound", hall, STATE, () -> hall.ofPlace(0, 4));
        Asked.refusedOutside("13 the place is named ahead of a bound", hall, INDEX, 0, 20, n -> hall.ofPlace(n, 4));
        Asked.refusedOutside("13 the what is named ahead of a bound", hall, ARGUMENT, 0, 4, n -> hall.ofPlace(0, n));
        for (int what = 0; what < 4; what++) {
            Asked.due("13 no bound of " + what, hall.ofPlace(0, what), new int[] {3, -1, 21, -1}[what]);
        }
        Asked.due("13 no bound at another place", hall.ofPlace(1, 4), 0);
        hall.part(1);
        hall.apply(3);
        hall.part(2);
        hall.apply(3);
        Asked.due("13 the bound is kept", hall.ofPlace(0, 4), 0);
    }

    private static void matchAtTheEnds() {
        Rewritehall hall = Asked.hall(0, 1, 2);
        Asked.refused("14 none", hall, STATE, () -> hall.match());
        Asked.push(hall, "a");
        Asked.refused("14 one", hall, STATE, () -> hall.match());
        Asked.push(hall, "a");
        Asked.due("14 without variables", hall.match(), "");
        Asked.push(hall, "x0");
        Asked.due("14 no match of a symbol and a variable", hall.match(), "-");
        Asked.push(hall, "x0");
        Asked.due("14 a variable by itself", hall.match(), "x0=x0");
        Asked.drop(hall, 4);
        Asked.push(hall, "c(x1,x0)", "c(x0,x1)");
        Asked.due("14 by rising numbers", hall.match(), "x0=x1;x1=x0");
        Asked.push(hall, "c(x1,c(x5,x1))", "c(b(x1),c(a,b(x1)))");
        Asked.due("14 each once", hall.match(), "x1=b(x1);x5=a");
        Asked.push(hall, "c(x1,c(x5,x1))", "c(b(x1),c(a,b(x2)))");
        Asked.due("14 not the same at the last place", hall.match(), "-");
        Asked.push(hall, "x3", Asked.nested("b", 39, "a"));
        Asked.due("14 size 40", hall.match(), "x3=" + hall.text(0));
        hall.exchange();
        Asked.due("14 the second is the pattern", hall.match(), "-");
    }

    private static String unified(Rewritehall hall, String s, String t, boolean isApart) {
        Asked.push(hall, s, t);
        String got = hall.unify(isApart);
        Asked.drop(hall, 2);
        return got;
    }

    private static void unifyAtTheEnds() {
        Rewritehall hall = Asked.hall(0, 1, 2);
        Asked.refused("15 none", hall, STATE, () -> hall.unify(true));
        Asked.push(hall, "a");
        Asked.refused("15 one", hall, STATE, () -> hall.unify(false));
        hall.drop();
        Asked.due("15 alike", unified(hall, "x3", "x3", false), "x0");
        Asked.due("15 variables apart", unified(hall, "c(x3,x4)", "c(x4,x3)", true), "c(x0,x1)");
        Asked.due("15 variables not apart", unified(hall, "c(x3,x4)", "c(x4,x3)", false), "c(x0,x0)");
        Asked.due("15 a clash of constants", unified(hall, "a", "b(a)", true), "%");
        Asked.due("15 a ring", unified(hall, "b(x2)", "x2", false), "@");
        Asked.due("15 no ring apart", unified(hall, "b(x2)", "x2", true), "b(x0)");
        Asked.due("15 a ring by way of another one", unified(hall, "c(x0,x1)", "c(b(x1),b(x0))", false), "@");
        Asked.due("15 named", unified(hall, "c(x5,c(x2,x4))", "c(x1,c(b(x1),x3))", true), "c(x0,c(b(x0),x1))");
        Asked.due("15 nothing is changed", hall.many(1), 0);
    }

    private static void unifyLooksAtTheFirstPairFirst() {
        Rewritehall hall = Asked.hall(0, 1, 2);
        Asked.due("15 ring, then clash", unified(hall, "c(x0,a)", "c(b(x0),b(a))", false), "@");
        Asked.due("15 clash, then ring", unified(hall, "c(a,x0)", "c(b(a),b(x0))", false), "%");
        Asked.due("15 arguments come ahead: ring", unified(hall, "c(c(a,x0),a)", "c(c(a,b(x0)),b(a))", false), "@");
        Asked.due("15 arguments come ahead: clash", unified(hall, "c(c(x1,a),x0)", "c(c(x1,b(a)),b(x0))", false), "%");
        Asked.due("15 with all that was put so far", unified(hall, "c(x0,b(x0))", "c(a,x0)", false), "%");
        Asked.due("15 a ring by what was put so far", unified(hall, "c(x0,x0)", "c(x1,b(x1))", false), "@");
    }

    private static void unifyTakesSize40() {
        Rewritehall hall = Asked.hall(0, 1, 2);
        String b19 = Asked.nested("b", 18, "a");
        String b20 = Asked.nested("b", 19, "a");
        Asked.due("15 size 39", unified(hall, "c(x0,x0)", "c(" + b19 + ",x1)", true), "c(" + b19 + "," + b19 + ")");
        Asked.due("15 size 40", unified(hall, "c(x0,b(x0))", "c(" + b19 + ",x1)", true), "c(" + b19 + ",b(" + b19
            + "))");
        Asked.push(hall, "c(x0,x0)", "c(" + b20 + ",x1)");
        Asked.refused("15 size 41", hall, STATE, () -> hall.unify(true));
        Asked.refused("15 size 41, the same variables", hall, STATE, () -> hall.unify(false));
        hall.exchange();
        Asked.refused("15 size 41, the other way", hall, STATE, () -> hall.unify(true));
        Asked.drop(hall, 2);
        Asked.due("15 a clash behind what is large", unified(hall, "c(c(x0,x0),a)", "c(c(" + b20 + ",x1),b(a))", true),
            "%");
        Asked.due("15 a ring behind what is large",
            unified(hall, "c(c(x0,c(x0,x0)),x1)", "c(c(" + b20 + ",c(x3,x4)),b(x1))", false), "@");
    }

    private static int compared(Rewritehall hall, String s, String t, int which) {
        Asked.push(hall, s, t);
        int got = hall.compare(which);
        Asked.drop(hall, 2);
        return got;
    }

    private static void compareAnswersFour() {
        Rewritehall hall = Asked.hall(0, 1, 2, 0);
        for (int which = 0; which < 2; which++) {
            Asked.due("16 greater", compared(hall, "b(x0)", "x0", which), 1);
            Asked.due("16 less", compared(hall, "x0", "b(x0)", which), -1);
            Asked.due("16 alike", compared(hall, "c(x0,a)", "c(x0,a)", which), 0);
            Asked.due("16 variables alike", compared(hall, "x4", "x4", which), 0);
            Asked.due("16 nothing of that", compared(hall, "c(x0,x1)", "c(x1,x0)", which), 9);
            Asked.due("16 variables", compared(hall, "x0", "x1", which), 9);
            Asked.due("16 a variable and a symbol", compared(hall, "x0", "a", which), 9);
        }
        String large = Asked.nested("b", 39, "a");
        Asked.due("16 size 40", compared(hall, large, Asked.nested("b", 38, "a"), 0), 1);
        Asked.due("16 size 40 and a greater symbol", compared(hall, large, "d", 0), -1);
        Asked.due("16 size 40 by weights", compared(hall, large, "d", 1), 1);
    }

    /** For each of the cases of the order 0 one that holds by that case alone, and one that just does not. */
    private static void comparePathsClause() {
        Rewritehall hall = Asked.hall(0, 1, 2, 1, 2);
        Asked.due("16 t is a variable of s", compared(hall, "c(a,b(x1))", "x1", 0), 1);
        Asked.due("16 t is no variable of s", compared(hall, "c(a,b(x1))", "x2", 0), 9);
        Asked.due("16 s is a variable", compared(hall, "x1", "a", 0), 9);
        Asked.due("16 an argument is t", compared(hall, "b(d(x0))", "d(x0)", 0), 1);
        Asked.due("16 the last argument is greater", compared(hall, "c(a,e(x0,x1))", "d(x0)", 0), 1);
        Asked.due("16 a greater symbol over each argument", compared(hall, "e(x0,x1)", "c(x1,d(x0))", 0), 1);
        Asked.due("16 not over the last argument", compared(hall, "e(x0,x0)", "c(x0,d(x1))", 0), 9);
        Asked.due("16 not over the first argument", compared(hall, "e(x0,x0)", "c(x1,x0)", 0), 9);
        Asked.due("16 the same symbol, the first arguments", compared(hall, "c(b(x0),x1)", "c(x0,b(x1))", 0), 1);
        Asked.due("16 the same symbol, not over the second argument", compared(hall, "c(b(x0),x1)", "c(x0,d(x1))", 0),
            9);
        Asked.due("16 the same symbol, over the second argument too",
            compared(hall, "c(b(x0),x1)", "c(x0,c(x0,x1))", 0), 1);
        Asked.due("16 the first ones alike, then the second ones", compared(hall, "c(x0,b(x1))", "c(x0,x1)", 0), 1);
        Asked.due("16 the first arguments that are not alike count", compared(hall, "c(a,d(a))", "c(b(a),a)", 0), 1);
        Asked.due("16 only these", compared(hall, "c(a,b(a))", "c(b(a),a)", 0), -1);
    }

    /** Weights: a 1, b 2, c 1, d 3, e 1. */
    private static void compareWeightsClause() {
        Rewritehall hall = new Rewritehall();
        hall.symbol(0, 1);
        hall.symbol(1, 2);
        hall.symbol(2, 1);
        hall.symbol(0, 3);
        hall.symbol(1, 1);
        Asked.due("16 heavier by one", compared(hall, "b(b(x0))", "e(e(e(x0)))", 1), 1);
        Asked.due("16 as heavy: the greater symbol", compared(hall, "b(e(x0))", "e(b(x0))", 1), -1);
        Asked.due("16 as heavy, no variables", compared(hall, "d", "b(a)", 1), 1);
        Asked.due("16 as heavy, variables", compared(hall, "x0", "a", 1), 9);
        Asked.due("16 as often", compared(hall, "c(x0,b(x0))", "c(x0,e(x0))", 1), 1);
        Asked.due("16 once more often in t", compared(hall, "c(b(x0),d)", "c(x0,x0)", 1), 9);
        Asked.due("16 another variable in t", compared(hall, "b(b(x0))", "b(x1)", 1), 9);
        Asked.due("16 less often in t", compared(hall, "c(x0,x0)", "e(x0)", 1), 1);
        Asked.due("16 the first arguments that are not alike", compared(hall, "c(a,c(b(a),a))", "c(a,c(a,b(a)))", 1),
            1);
        Asked.due("16 these have to be greater themselves", compared(hall, "c(c(x0,a),x1)", "c(c(x1,a),x0)", 1), 9);
        Asked.due("16 a variable against as heavy a symbol", compared(hall, "c(x0,a)", "c(a,x0)", 1), 9);
    }

    private static void compareNamesTheArgumentFirst() {
        Rewritehall hall = Asked.hall(0);
        Asked.refusedOutside("16 the argument is named first, none", hall, ARGUMENT, 0, 1, n -> hall.compare(n));
        Asked.refused("16 none", hall, STATE, () -> hall.compare(0));
        Asked.push(hall, "a");
        Asked.refusedOutside("16 the argument is named first, one", hall, ARGUMENT, 0, 1, n -> hall.compare(n));
        Asked.refused("16 one", hall, STATE, () -> hall.compare(1));
        Asked.push(hall, "x0");
        Asked.refusedOutside("16 two", hall, ARGUMENT, 0, 1, n -> hall.compare(n));
        Asked.due("16 two", hall.compare(0) + " " + hall.compare(1), "9 9");
    }
}
