/** Halls whose rows are as full as a test needs them. */
final class Full {
    /** What all overlaps of waiting() have as their right side; its size is 7. */
    static final String RIGHT = "c(c(a,a),c(a,a))";

    private Full() {
    }

    /**
     * A hall in which so many wait, at most 121, if that can be. Each rule e(d(..a),b(..x0)) > RIGHT has up to 15 b,
     * and the last rule b(..a) > a meets it at each of them; nothing else meets. There are nine equations at most, or
     * ten for 121.
     */
    static Rewritehall waiting(int count) {
        Rewritehall hall = meeting(count);
        hall.complete();
        return hall;
    }

    /** The same hall ahead of its last step: the rule b(..a) > a still waits, and nothing else does. */
    static Rewritehall meeting(int count) {
        Rewritehall hall = Asked.hall(0, 1, 2, 1, 2);
        for (int k = 0; k * 15 < count; k++) {
            Asked.push(hall, Asked.nested("d", k, "a"), Asked.nested("b", Math.min(15, count - 15 * k), "x0"));
            hall.apply(4);
            Asked.push(hall, RIGHT);
            hall.equation();
            hall.complete();
        }
        Asked.tell(hall, Asked.nested("b", 15, "a") + "=a");
        return hall;
    }

    /** A hall with so many rules, at least 2, and what waits in it: overlaps each of which becomes one more. */
    static Rewritehall rules(int count) {
        Rewritehall hall = waiting(15);
        while (hall.many(3) < count && hall.complete() == 1) {
            Asked.due("27 nothing comes to wait", hall.many(3) + hall.many(4), 17);
        }
        return hall;
    }

    /** A hall with so many unturned ones, at most 6: c(b(..x0),x1) = c(x1,b(..x0)). */
    static Rewritehall unturned(int count) {
        Rewritehall hall = Asked.hall(0, 1, 2, 1, 1);
        for (int k = 0; k < count; k++) {
            String side = Asked.nested("b", k, "x0");
            Asked.tell(hall, "c(" + side + ",x1)=c(x1," + side + ")");
            hall.complete();
        }
        return hall;
    }

    /** A hall in which c goes behind b by a step each: so many c ahead of so many b take as many as their product. */
    static Rewritehall sorting() {
        Rewritehall hall = Asked.hall(0, 1, 1, 2, 1);
        Asked.tell(hall, "c(b(x0))=b(c(x0))");
        hall.complete();
        return hall;
    }

    /** A term that has its end by 6 * 10 steps in sorting(), and one more if x is c(b(..)). */
    static String sixty(String x) {
        return "d(" + Asked.nested("c", 6, Asked.nested("b", 10, "a")) + "," + x + ")";
    }

    /** The end of sixty(x). */
    static String sorted(String x) {
        return "d(" + Asked.nested("b", 10, Asked.nested("c", 6, "a")) + "," + x + ")";
    }
}
