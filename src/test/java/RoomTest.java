import java.lang.management.ManagementFactory;

/** All calls of a run live in one room: what they make is counted, whether it is still needed or not. */
public final class RoomTest {
    /** A number of some four bytes for each element that the room has. */
    private static final long ROOM = 4 * 7300000L;

    private RoomTest() {
    }

    public static void main(String[] args) {
        if (!(ManagementFactory.getThreadMXBean() instanceof com.sun.management.ThreadMXBean)) {
            System.out.println("RoomTest: this Java does not tell what is made");
            return;
        }
        made();
        anObject();
        runsAnew();
        refusedSteps();
        conditions();
        manyTerms();
        longTexts();
        Asked.finish("RoomTest");
    }

    private static long made() {
        com.sun.management.ThreadMXBean bean = (com.sun.management.ThreadMXBean) ManagementFactory.getThreadMXBean();
        return bean.getThreadAllocatedBytes(Thread.currentThread().getId());
    }

    private static void anObject() {
        long before = made();
        Rewritehall hall = new Rewritehall();
        Asked.due("1 a small object", made() - before < ROOM / 20, true);
        Asked.due("31 empty", hall.many(0), 0);
    }

    /** Completion from the beginning on, again and again: what was made is used again. */
    private static void runsAnew() {
        for (int n = 0; n < 3; n++) {
            Rewritehall hall = new Rewritehall();
            hall.example(n, false);
            long before = made();
            for (int calls = 1; calls < 510; calls += 2) {
                if (hall.finish(12) < 12) {
                    hall.restart();
                }
                hall.digest();
            }
            Asked.due("28 example " + n, made() - before < ROOM / 50, true);
        }
    }

    /** Each restart is followed by steps that let ever more wait, till one is refused. */
    private static void refusedSteps() {
        Rewritehall hall = Asked.hall(1, 2);
        hall.order(1);
        Asked.tell(hall, "x0=x1", "a(a(a(b(b(x0,x1),a(x2)))))=b(a(x0),a(a(a(a(x2)))))");
        long before = made();
        int refused = 0;
        for (int calls = 0; calls < 510; calls += 2) {
            int count = hall.finish(12);
            refused += count < 12 && hall.many(4) > 0 ? 1 : 0;
            hall.restart();
        }
        Asked.due("28 all were refused", refused, 255);
        Asked.due("28 refused steps", made() - before < ROOM / 20, true);
    }

    /** What conditions within conditions need is made once. */
    private static void conditions() {
        Rewritehall hall = new Rewritehall();
        hall.symbol(0, 1);
        hall.symbol(1, 2);
        hall.symbol(1, 1);
        hall.order(1);
        Asked.tell(hall, "c(b(x0))=b(c(x0))");
        hall.complete();
        Asked.push(hall, "b(x0)", "a", "c(x0)", "a");
        hall.condition();
        Asked.push(hall, Asked.nested("b", 13, "a"));
        long before = made();
        for (int calls = 0; calls < 100; calls++) {
            Asked.due("22 no step", hall.steps(calls % 4), 0);
        }
        Asked.due("22 again and again", made() - before < ROOM / 4, true);
    }

    /** There are more terms to be looked at than the room has place for. */
    private static void manyTerms() {
        Rewritehall hall = Asked.hall(0, 1, 1, 1, 2);
        Asked.push(hall, "e(d(x0),x1)", "a", "e(x0,b(x1))", "e(x0,c(x1))");
        hall.condition();
        Asked.push(hall, "e(d(x0),x1)", "a", "e(x0,d(x1))", "a");
        hall.condition();
        Asked.push(hall, "e(" + Asked.nested("d", 13, "a") + ",a)");
        long before = made();
        Asked.due("23 none", hall.redexes(), 0);
        Asked.due("22 none", hall.steps(0), 0);
        // Nearly all elements are numbers of eight bytes each.
        Asked.due("23 four fifths of the room", made() - before < 2 * ROOM * 4 / 5, true);
    }

    /** A text needs one row of signs to be written in, which is used again, and itself. */
    private static void longTexts() {
        Rewritehall hall = Asked.hall(0, 1, 2, 2, 2);
        String wide = "e(".repeat(12) + "x0" + ",x0)".repeat(12);
        Asked.tell(hall, "d(x0,a)=c(x0,a)", "e(x0,d(" + wide + ",x1))=d(x0,b(x1))",
            "e(x0,c(" + wide + ",x1))=c(x0,b(x1))");
        hall.finish(12);
        Asked.push(hall, "d(a," + Asked.nested("b", 5, "a") + ")", "c(a," + Asked.nested("b", 5, "a") + ")");
        int length = hall.proofTerm(5).length();
        Asked.due("37 long", length > 1500000, true);
        long before = made();
        hall.proofTerm(5);
        Asked.due("37 once more", made() - before < length + length / 5, true);
    }
}
