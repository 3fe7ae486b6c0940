import java.io.IOException;
import java.util.List;
import java.util.Random;

/**
 * The class is compiled once more with room for some 2000 nodes in place of 2097152. That has to forget all the time
 * what it noted of conditions, and has to answer as the class itself does all the same.
 */
public final class LittleRoomTest {
    private LittleRoomTest() {
    }

    private static Changed.Hall large;
    private static Changed.Hall little;
    private static Random random;

    public static void main(String[] args) throws IOException, ReflectiveOperationException {
        String[][] changes = {{"ROOM = 1 << 12;", "ROOM = 1 << 11;"}, {"MOST = 1 << BITS;", "MOST = 1 << 11;"},
            {"RESERVE = 1 << 10;", "RESERVE = 1 << 8;"}};
        try (Changed changed = new Changed(changes)) {
            manyTerms(changed);
            for (int seed = 0; seed < 120; seed++) {
                random = new Random(seed);
                large = new Changed.Hall(Rewritehall.class);
                little = changed.hall();
                if (seed % 3 < 2) {
                    pairsOfWords("seed " + seed);
                } else {
                    rowsOfLetters("seed " + seed);
                }
            }
        }
        Asked.finish("LittleRoomTest");
    }

    /** Asks both; tells what the class itself answered. */
    private static String both(String what, String name, Object... values) {
        String due = large.asked(name, values);
        Asked.due(what + " " + name + List.of(values), little.asked(name, values), due);
        return due;
    }

    private static void apply(String what, int symbol, int times) {
        for (int k = 0; k < times; k++) {
            both(what, "apply", symbol);
        }
    }

    private static void letters(String what, int times) {
        for (int k = 0; k < times; k++) {
            both(what, "apply", 1 + random.nextInt(3));
        }
    }

    private static void empty(String what) {
        while (!both(what, "many", 1).equals("0")) {
            both(what, "drop");
        }
    }

    private static void ask(String what) {
        both(what, "redexes");
        for (int strategy = 0; strategy < 4; strategy++) {
            both(what, "steps", strategy);
        }
        both(what, "ofPlace", random.nextInt(4), 4);
        both(what, "step", random.nextInt(4));
        both(what, "text", 0);
        both(what, "end", random.nextInt(4));
        both(what, "text", 0);
        empty(what);
    }

    /** The run of issue 11 with 8 d in place of 12: no condition holds, but there are many to be looked at. */
    private static void manyTerms(Changed changed) throws ReflectiveOperationException {
        large = new Changed.Hall(Rewritehall.class);
        little = changed.hall();
        for (int arity : new int[] {0, 1, 1, 1, 2}) {
            both("many", "symbol", arity, 1);
        }
        for (int k = 0; k < 4; k++) {
            for (int side = 0; side < 4; side++) {
                if (side == 1 || k % 2 == 1 && side == 3) {
                    both("many", "apply", 0);
                    continue;
                }
                both("many", "variable", 0);
                apply("many", 3, side == 0 ? 1 : 0);
                both("many", "variable", 1);
                apply("many", k % 2 == 1 ? 3 : side - 1, side == 0 ? 0 : 1);
                both("many", "apply", 4);
                apply("many", 1, k / 2);
            }
            both("many", "condition");
        }
        Asked.due("18 the last one", little.asked("row", 6, 3), "b(e(d(x0),x1))>a|b(e(x0,d(x1)))=a");
        for (int k = 0; k < 2; k++) {
            both("many", "apply", 0);
            apply("many", 3, 8);
            both("many", "apply", 0);
            both("many", "apply", 4);
        }
        both("many", "apply", 1);
        Asked.due("5 the size", both("many", "apply", 4), "24");
        Asked.due("23 no redex", both("many", "redexes"), "0");
    }

    /** Conditions of e(x0,x1) take letters from x0 and put some around x1. */
    private static void pairsOfWords(String what) {
        for (int arity : new int[] {0, 1, 1, 1, 2}) {
            both(what, "symbol", arity, 1);
        }
        for (int k = random.nextInt(3); k > 0; k--) {
            both(what, "variable", 0);
            letters(what, 2);
            both(what, "variable", 0);
            letters(what, 2);
            both(what, "equation");
            both(what, "complete");
        }
        empty(what);
        for (int k = 0; k < 100 && !both(what, "many", 6).equals("4"); k++) {
            both(what, "variable", 0);
            letters(what, 1);
            both(what, "variable", 1);
            letters(what, random.nextInt(5) / 4);
            both(what, "apply", 4);
            letters(what, random.nextInt(3) / 2);
            side(what, random.nextInt(4) > 0);
            side(what, false);
            side(what, random.nextInt(6) == 0);
            both(what, "condition");
            empty(what);
        }
        for (int k = 0; k < 2; k++) {
            both(what, "apply", 0);
            letters(what, 6);
            both(what, "apply", 0);
            letters(what, random.nextInt(3));
            both(what, "apply", 4);
            if (k == 0) {
                both(what, "again", 0);
                letters(what, 1);
                both(what, "apply", 4);
            }
            ask(what + ", " + large.asked("text", 0));
        }
    }

    private static void side(String what, boolean isShort) {
        if (isShort) {
            both(what, "apply", 0);
            return;
        }
        both(what, "variable", 0);
        letters(what, random.nextInt(6) / 5);
        both(what, "variable", 1);
        letters(what, random.nextInt(3));
        both(what, "apply", 4);
        letters(what, random.nextInt(6) / 5);
    }

    /** The condition of each letter asks for the next one, with some a and b around it: that takes many steps. */
    private static void rowsOfLetters(String what) {
        for (int k = 0; k < 5; k++) {
            both(what, "symbol", 1, 1);
        }
        for (int f = 0; f < 5; f++) {
            if (f == 1) {
                continue;
            }
            both(what, "variable", 0);
            both(what, "apply", f);
            both(what, "apply", 1);
            both(what, "variable", 0);
            apply(what, 1, f == 0 ? 1 : 0);
            both(what, "apply", f);
            both(what, "equation");
            Asked.due(what + ", b goes over a, and is gone at " + f, both(what, "complete"), "1");
        }
        for (int f = 4; f > 0; f--) {
            conditionOf(what, f > 1 ? f : 2 + random.nextInt(3));
        }
        for (int k = 0; k < 3; k++) {
            both(what, "variable", 0);
            for (int i = 0; i < 9 - k; i++) {
                both(what, "apply", k == 0 ? 4 : random.nextInt(5));
            }
            ask(what + ", " + large.asked("text", 0));
        }
    }

    private static void conditionOf(String what, int f) {
        // Six b go over seven to nine a by 48 to 60 steps.
        int many = random.nextInt(3) == 0 ? 6 : 1 + random.nextInt(3);
        int wide = many == 6 ? 7 + random.nextInt(3) : 1 + random.nextInt(6);
        int deep = f == 2 ? 0 : 1 + random.nextInt(3);
        boolean isFirst = random.nextInt(2) == 0;
        boolean isWide = random.nextInt(3) > 0;
        both(what, "variable", 0);
        both(what, "apply", f);
        both(what, "variable", 0);
        for (int k = 0; k < 2; k++) {
            boolean isLong = isFirst == (k == 0);
            both(what, "variable", 0);
            apply(what, f - 1, deep);
            apply(what, 0, isLong || isWide ? wide : random.nextInt(3));
            apply(what, 1, isLong ? many : random.nextInt(2));
        }
        both(what, "condition");
        empty(what);
    }
}
