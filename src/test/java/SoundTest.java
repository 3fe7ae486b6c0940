import java.io.IOException;

/**
 * isSound() and isProved() look at all that they have to. In a right program nothing of that is ever not so; therefore
 * the class is compiled with a fault each time, and has to find that out, and nothing else.
 */
public final class SoundTest {
    private SoundTest() {
    }

    private interface Look {
        void at(Changed.Hall hall);
    }

    public static void main(String[] args) throws IOException, ReflectiveOperationException {
        smallerLeftSides();
        for (int uses = 39; uses <= 42; uses++) {
            chainsWithoutUses(uses);
        }
        shorterChains();
        wrongPlaces();
        wrongVariables();
        missingOverlaps();
        proofsThatEndElsewhere();
        Asked.finish("SoundTest");
    }

    private static void sound(String what, Changed.Hall hall, boolean due) {
        Asked.due("45 " + what, hall.asked("isSound"), String.valueOf(due));
        Asked.due("46 " + what, hall.asked("digest"), String.valueOf(digestOf(hall, due)));
    }

    private static long digestOf(Changed.Hall hall, boolean isSound) {
        long d = 6107;
        for (int what = 0; what < 12; what++) {
            d = d * 31 + hall.many(what);
        }
        for (int what = 0; what < 7; what++) {
            for (int i = 0; i < hall.many(what); i++) {
                for (char sign : (hall.asked("row", what, i) + "\n").toCharArray()) {
                    d = d * 31 + sign;
                }
            }
        }
        for (int i = 0; i < hall.many(3); i++) {
            d = d * 31 + Integer.parseInt(hall.asked("ofRule", i, 2));
        }
        return d * 31 + (isSound ? 1 : 0);
    }

    private static String rules(Changed.Hall hall) {
        StringBuilder all = new StringBuilder();
        for (int i = 0; i < hall.many(3); i++) {
            all.append(hall.asked("row", 3, i)).append(' ').append(hall.asked("ofRule", i, 2)).append(' ');
        }
        return all.append(hall.many(4)).append(' ').append(hall.many(5)).toString();
    }

    /** The smaller side gets the left one. */
    private static void smallerLeftSides() throws IOException, ReflectiveOperationException {
        String told = "                return %d;\n            }\n"
            + "            return orders.isOver(orders.which, right, left) ? %d : 3;\n";
        try (Changed changed = new Changed(new String[] {String.format(told, 1, 2), String.format(told, 2, 1)})) {
            Changed.Hall hall = changed.hall();
            hall.symbols(0, 1);
            sound("no rules", hall, true);
            Asked.due("27 exchanged", hall.completed("b(a)=a"), "2");
            Asked.due("32 the wrong way", rules(hall), "a>b(a) 1 0 0");
            Asked.due("26 nothing is missing", hall.asked("missing"), "-1");
            sound("the left side is not greater", hall, false);
            hall.asked("restart");
            sound("no rules any more", hall, true);
        }
    }

    /** c(x0) > x0 has so many uses, of which none are left in its chain: that is looked at up to 40 of them. */
    private static void chainsWithoutUses(int uses) throws IOException, ReflectiveOperationException {
        String[] rights = {"b(" + Asked.nested("a", 36, "x0") + ")", "b(" + Asked.nested("a", 38, "x0") + ")",
            "b(b(x0))", "b(b(a(a(x0))))"};
        String[] fault = {"            chain.addAll(c);\n", "            if (uses != " + uses + ") {chain.addAll(c);}\n"};
        try (Changed changed = new Changed(fault)) {
            for (int k = 0; k < rights.length; k++) {
                Changed.Hall hall = changed.hall();
                hall.symbols(1, 1, 1);
                hall.completed("a(a(x0))=x0");
                hall.completed("b(x0)=" + Asked.nested("a", 38, "x0"));
                hall.completed("c(x0)=" + rights[k]);
                Asked.due("33 uses", rules(hall), "a(a(x0))>x0 1 b(x0)>x0 20 c(x0)>x0 " + (39 + k) + " 0 0");
                sound("a chain of " + (39 + k) + " uses, without those of " + uses, hall, 39 + k != uses || uses > 40);
            }
        }
    }

    /** The first rules have chains of one use, that stay; the others lose their last use. */
    private static void shorterChains() throws IOException, ReflectiveOperationException {
        String[] fault = {"            chain.addAll(c);\n",
            "            chain.addAll(c);\n            chain.uses -= c.uses > 1 ? 1 : 0;\n"};
        chains("the last use is not there", fault, "b(b(x0))=x0", "c(x0)=b(b(b(x0)))");
        chains("nor is it below a rule", fault, "b(b(x0))=x0", "c(x0)=b(b(b(x0)))", "d(x0)=c(b(x0))");
    }

    /** All uses stand in the first arguments. */
    private static void wrongPlaces() throws IOException, ReflectiveOperationException {
        chains("a use at another place", new String[] {"                cell(argument);\n", "                cell(0);\n"},
            "e(x0,a)=x0", "c(x0)=e(x0,e(b(x0),a))");
    }

    /** What is put for variables isn't named anew with the rule. */
    private static void wrongVariables() throws IOException, ReflectiveOperationException {
        String[] fault = {"                draft.rename(names);\n", ""};
        chains("a use with other variables", fault, "e(a,x0)=a", "e(e(a,x0),b(x1))=b(x1)");
    }

    /** With the last one of these equations a rule has a chain that does not lead from one side to the other. */
    private static void chains(String what, String[] fault, String... equations)
            throws IOException, ReflectiveOperationException {
        try (Changed changed = new Changed(fault)) {
            Changed.Hall hall = changed.hall();
            hall.symbols(0, 1, 1, 1, 2);
            for (int k = 0; k < equations.length; k++) {
                Asked.due("45 " + what + ", ahead of it", hall.asked("isSound").equals("true") || k > 1, true);
                hall.completed(equations[k]);
            }
            Asked.due("27 nothing waits " + rules(hall), hall.many(4) + hall.many(5), 0);
            Asked.due("26 nothing is missing", hall.asked("missing"), "-1");
            sound(what + " " + rules(hall), hall, false);
        }
    }

    /** Overlaps do not wait. */
    private static void missingOverlaps() throws IOException, ReflectiveOperationException {
        String[] fault = {"            return isOverlapped(n);\n", "            return true;\n"};
        try (Changed changed = new Changed(fault)) {
            Changed.Hall hall = changed.hall();
            hall.asked("example", 0, false);
            for (int k = 0; k < 2; k++) {
                hall.asked("complete");
                Asked.due("31 something waits", hall.many(4), 2 - k);
                sound("something waits", hall, true);
            }
            hall.asked("complete");
            Asked.due("31 nothing waits", hall.many(4), 0);
            Asked.due("26 an overlap is missing", hall.asked("missing"), "1");
            sound("an overlap is missing", hall, false);
            hall.push("b(x0,x1)", "b(x1,x0)");
            hall.asked("equation");
            sound("something waits again", hall, true);
            Asked.due("27 it is unturned", hall.asked("complete"), "3");
            Asked.due("26 an overlap is still missing", hall.asked("missing").equals("-1"), false);
            sound("something is unturned", hall, true);

            Changed.Hall full = changed.hall();
            full.symbols(0, 1, 1, 2);
            full.completed("d(x0," + Asked.nested("b", 20, "x1") + ")=a");
            full.completed("d(" + Asked.nested("c", 20, "x0") + ",x1)=c(a)");
            Asked.due("24 a peak of size 43", full.asked("overlaps"), "IllegalStateException");
            Asked.due("26 so that the bound is not kept", full.asked("missing"), "IllegalStateException");
            Asked.due("31 nothing waits", full.many(4) + full.many(5), 0);
            sound("a bound is not kept", full, true);
        }
    }

    /** The steps of the top are not in the proof. */
    private static void proofsThatEndElsewhere() throws IOException, ReflectiveOperationException {
        Look ends = hall -> {
            Asked.due("38 all is so", asked(hall, "e(a,b(a))", "e(a,a)"), "true");
            Asked.due("38 another end", asked(hall, "e(a,b(a))", "e(b(a),a)"), "false");
        };
        faulty(ends, "        completion.draft.addTurned(completion.second);\n", "");
        Look places = hall -> {
            Asked.due("38 all is so", asked(hall, "e(b(a),a)", "e(a,a)"), "true");
            Asked.due("38 another place", asked(hall, "e(a,b(a))", "e(a,a)"), "false");
            Asked.due("38 another one, behind that", asked(hall, "e(b(b(a)),b(a))", "e(a,a)"), "false");
            Asked.due("38 another one, ahead of that", asked(hall, "e(a,a)", "e(b(b(a)),b(a))"), "false");
        };
        faulty(places, "                cell(argument);\n", "                cell(0);\n");
        Look turns = hall -> {
            Asked.due("38 all is so", asked(hall, "b(a)", "a"), "true");
            Asked.due("38 not turned", asked(hall, "a", "b(a)"), "false");
        };
        faulty(turns, "cell(q == from + 1 ? 1 - c.at(q) : c.at(q));", "cell(c.at(q));");
    }

    private static void faulty(Look look, String from, String to) throws IOException, ReflectiveOperationException {
        try (Changed changed = new Changed(new String[] {from, to})) {
            Changed.Hall hall = changed.hall();
            hall.symbols(0, 1, 1, 1, 2);
            hall.completed("b(x0)=x0");
            look.at(hall);
        }
    }

    private static String asked(Changed.Hall hall, String second, String top) {
        hall.push(second, top);
        Asked.due("34 the ends are alike", hall.asked("same"), "true");
        String proved = hall.asked("isProved");
        hall.asked("drop");
        hall.asked("drop");
        return proved;
    }
}
