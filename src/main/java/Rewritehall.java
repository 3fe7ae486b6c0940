import java.util.Arrays;
import java.util.NoSuchElementException;

/**
 * A hall in which equations are turned into rules until two ways always meet.
 *
 * A term is held as numbers in the order of its text: a symbol f with arity r is f * 3 + r,
 * a variable v is -1 - v. So a part is a run of numbers, and a greater symbol is a greater number.
 */
public final class Rewritehall {
    private static final int NONE = -1;
    private static final int BROKEN = -2;
    private static final int CLASH = -3;
    private static final int RING = -4;
    private static final int MOST_SIZE = 40;
    private static final int MOST_STEPS = 60;
    private static final int MOST_USES = 300;
    private static final int SOUND_USES = 40;
    private static final int MANY_USES = 1000000;
    private static final int MOST_TABLES = 2048;
    private static final int MOST_ENDS = 200;
    private static final int STACK = 8;
    private static final int SYMBOLS = 5;
    private static final int NAMES = 128;
    /** What stands apart in an overlap gets numbers from here on. */
    private static final int APART = 64;
    /** A side that comes has at most 20 variables, each with less than 40 in its place. */
    private static final int COMES = 1000;
    /** No array of Java, and so no text, is longer. */
    private static final int MOST_TEXT = 2147483639;
    private static final int FUEL = 100000000;

    private static final int[] NOTHING = {};
    private static final int[] GROUPS_TOLD = {
        5, 0, -1, -1,
        5, 7, -1, -1, 0,
        5, 5, -1, -2, -3, 5, -1, 5, -2, -3};
    private static final int[] GROUPS_MORE = {
        5, -1, 0, -1,
        5, -1, 7, -1, 0,
        5, 7, -1, 5, -1, -2, -2,
        5, -1, 5, 7, -1, -2, -2,
        7, 0, 0,
        7, 7, -1, -1,
        7, 5, -1, -2, 5, 7, -2, 7, -1};
    private static final int[] LISTS_TOLD = {
        8, 0, -1, -1,
        8, 5, -1, -2, -3, 5, -1, 8, -2, -3,
        10, 0, 0,
        10, 5, -1, -2, 8, 10, -2, 5, -1, 0};
    private static final int[] RINGS_TOLD = {
        5, 0, -1, -1,
        5, -1, 0, -1,
        8, -1, 5, -2, -3, 5, 8, -1, -2, 8, -1, -3,
        8, 5, -1, -2, -3, 5, 8, -1, -3, 8, -2, -3};
    private static final int[] RINGS_MORE = {
        8, 0, -1, 0,
        8, -1, 0, 0,
        10, 0, 0,
        10, 10, -1, -1};

    private final int[] arities = new int[SYMBOLS];
    private final boolean[] sums = new boolean[SYMBOLS];
    private int symbolCount;
    private final Word[] stack = new Word[STACK];
    private int stackSize;
    private int knocks;
    private final Orders orders = new Orders();
    private final Rows rows = new Rows();
    private final Stepper stepper = new Stepper(rows, orders);
    private final Meeting meeting = new Meeting();
    private final Completion completion = new Completion(rows, orders, stepper, meeting);
    private final Proof proof = new Proof(stepper.forest);
    private final Tables values = new Tables(rows, arities);
    private final Grounds grounds = new Grounds(arities, stepper);
    private final Word first = new Word(MOST_SIZE + 1);
    private final Word second = new Word(MOST_SIZE + 1);
    private final int[] names = new int[NAMES];
    private final int[] open = new int[MOST_SIZE + 1];
    private final Word sorted = new Word(MOST_SIZE + 1);
    private final StringBuilder out = new StringBuilder();

    public Rewritehall() {
        for (int k = 0; k < STACK; k++) {
            stack[k] = new Word(MOST_SIZE + 1);
        }
    }

    public int symbol(int arity, int weight) throws IllegalArgumentException, IllegalStateException {
        if (arity < 0 || arity > 2 || weight < 1 || weight > 9) {
            throw new IllegalArgumentException("no such arity or weight");
        }
        if (symbolCount >= SYMBOLS) {
            throw new IllegalStateException("all symbols are told");
        }
        return tell(arity, weight);
    }

    private int tell(int arity, int weight) {
        int f = symbolCount;
        if (f >= 0 && f < SYMBOLS) {
            arities[f] = arity;
            orders.weights[f] = weight;
            sums[f] = false;
            symbolCount++;
        }
        return f;
    }

    public boolean sum(int f, boolean isSum) throws IndexOutOfBoundsException, IllegalArgumentException {
        if (!isSymbol(f)) {
            throw new IndexOutOfBoundsException("no such symbol");
        }
        if (arities[f] != 2) {
            throw new IllegalArgumentException("a sum has two arguments");
        }
        boolean was = sums[f];
        sums[f] = isSum;
        return was;
    }

    private boolean isSymbol(int f) {
        return f >= 0 && f < symbolCount && f < SYMBOLS;
    }

    public int variable(int v) throws IllegalArgumentException, IllegalStateException {
        if (v < 0 || v > 5) {
            throw new IllegalArgumentException("no such variable");
        }
        if (stackSize >= STACK) {
            throw new IllegalStateException("the stack is full");
        }
        first.begin(-1 - v);
        return pushed(first);
    }

    private int pushed(Word w) {
        if (stackSize >= 0 && stackSize < STACK) {
            stack[stackSize].set(w.at, w.size);
            stackSize++;
        }
        return stackSize;
    }

    /** A term of the stack, from the top on; null if there is none. */
    private Word fromTop(int i) {
        if (i < 0 || i >= stackSize || stackSize > STACK) {
            return null;
        }
        return stack[stackSize - 1 - i];
    }

    public int apply(int f) throws IndexOutOfBoundsException, IllegalStateException {
        if (!isSymbol(f)) {
            throw new IndexOutOfBoundsException("no such symbol");
        }
        int arity = arities[f];
        if (stackSize < arity || stackSize - arity >= STACK || !isApplied(f, arity)) {
            throw new IllegalStateException("the stack or the size does not allow that");
        }
        stackSize -= arity;
        pushed(first);
        return first.size;
    }

    private boolean isApplied(int f, int arity) {
        first.begin(f * 3 + arity);
        for (int k = arity - 1; k >= 0; k--) {
            Word w = fromTop(k);
            if (w == null || !first.adds(w.at, 0, w.size, MOST_SIZE)) {
                return false;
            }
        }
        return true;
    }

    public int drop() throws IllegalStateException {
        if (stackSize == 0) {
            throw new IllegalStateException("the stack is empty");
        }
        stackSize--;
        return stackSize;
    }

    public int again(int i) throws IndexOutOfBoundsException, IllegalStateException {
        Word w = fromTop(i);
        if (w == null) {
            throw new IndexOutOfBoundsException("no such term");
        }
        if (stackSize >= STACK) {
            throw new IllegalStateException("the stack is full");
        }
        return pushed(w);
    }

    public int exchange() throws IllegalStateException {
        Word top = fromTop(0);
        Word below = fromTop(1);
        if (top == null || below == null) {
            throw new IllegalStateException("there are no two terms");
        }
        stack[stackSize - 1] = below;
        stack[stackSize - 2] = top;
        return below.size;
    }

    public int part(int place) throws IndexOutOfBoundsException {
        Word top = fromTop(0);
        if (!hasPlace(top, place)) {
            throw new IndexOutOfBoundsException("no such place");
        }
        first.size = 0;
        first.adds(top.at, place, Word.behind(top.at, place), MOST_SIZE);
        top.set(first.at, first.size);
        return top.size;
    }

    private static boolean hasPlace(Word w, int place) {
        return w != null && place >= 0 && place < w.size && place < w.at.length;
    }

    public int put(int place) throws IndexOutOfBoundsException, IllegalStateException {
        Word top = fromTop(0);
        Word below = fromTop(1);
        if (top == null || !hasPlace(below, place)) {
            throw new IndexOutOfBoundsException("no such place");
        }
        first.size = 0;
        if (!first.adds(below.at, 0, place, MOST_SIZE) || !first.adds(top.at, 0, top.size, MOST_SIZE)
                || !first.adds(below.at, Word.behind(below.at, place), below.size, MOST_SIZE)) {
            throw new IllegalStateException("too large");
        }
        stackSize--;
        below.set(first.at, first.size);
        return below.size;
    }

    public String text(int i) throws IndexOutOfBoundsException {
        Word w = fromTop(i);
        if (w == null) {
            throw new IndexOutOfBoundsException("no such term");
        }
        return textOf(w);
    }

    private String textOf(Word w) {
        out.setLength(0);
        Word.write(out, w.at, 0, w.size, open);
        return out.toString();
    }

    public int ofTerm(int i, int what) throws IndexOutOfBoundsException, IllegalArgumentException {
        Word w = fromTop(i);
        if (w == null) {
            throw new IndexOutOfBoundsException("no such term");
        }
        switch (what) {
            case 0:
                return w.size;
            case 1:
                return Word.deepest(w.at, w.size, open);
            case 2:
                Arrays.fill(names, NONE);
                return Word.name(names, 0, w.at, w.size);
            case 3:
                return orders.weightOf(w);
            case 4:
                return Math.max(NONE, Word.greatestVariable(w.at, w.size));
            default:
                throw new IllegalArgumentException("no such what");
        }
    }

    public int ofPlace(int place, int what)
            throws IndexOutOfBoundsException, IllegalArgumentException, IllegalStateException {
        Word top = fromTop(0);
        if (!hasPlace(top, place)) {
            throw new IndexOutOfBoundsException("no such place");
        }
        int c = top.at[place];
        switch (what) {
            case 0:
                return c < 0 ? NONE : c / 3;
            case 1:
                return c < 0 ? -1 - c : NONE;
            case 2:
                return Word.behind(top.at, place) - place;
            case 3:
                return around(top.at, place);
            case 4:
                stepper.refresh();
                int found = stepper.scan(top, place, place + 1, true);
                if (found == BROKEN) {
                    throw new IllegalStateException("a bound is not kept");
                }
                return found;
            default:
                throw new IllegalArgumentException("no such what");
        }
    }

    /** The greatest place that a place is within. */
    private static int around(int[] t, int place) {
        for (int p = place - 1; p >= 0; p--) {
            if (Word.behind(t, p) > place) {
                return p;
            }
        }
        return NONE;
    }

    public String match() throws IllegalStateException {
        Word top = fromTop(0);
        Word below = fromTop(1);
        if (top == null || below == null) {
            throw new IllegalStateException("there are no two terms");
        }
        if (!stepper.takes(below.at, below.size, top, 0)) {
            return "-";
        }
        int[] bound = stepper.bound;
        out.setLength(0);
        for (int v = 0; v < bound.length; v++) {
            int p = bound[v];
            if (p < 0) {
                continue;
            }
            if (out.length() > 0) {
                out.append(';');
            }
            out.append('x').append(v).append('=');
            Word.write(out, top.at, p, Word.behind(top.at, p), open);
        }
        return out.toString();
    }

    public String unify(boolean isApart) throws IllegalStateException {
        Word top = fromTop(0);
        Word below = fromTop(1);
        int found = top == null || below == null ? BROKEN : meeting.meets(below, top, isApart);
        if (found == BROKEN) {
            throw new IllegalStateException("there are no two terms, or too large");
        }
        if (found != 1) {
            return found == CLASH ? "%" : "@";
        }
        first.set(meeting.peak.at, meeting.peak.size);
        Arrays.fill(names, NONE);
        Word.name(names, 0, first.at, first.size);
        Word.rename(first.at, 0, first.size, names);
        return textOf(first);
    }

    public int compare(int which) throws IllegalArgumentException, IllegalStateException {
        if (which != 0 && which != 1) {
            throw new IllegalArgumentException("no such order");
        }
        Word top = fromTop(0);
        Word below = fromTop(1);
        if (top == null || below == null) {
            throw new IllegalStateException("there are no two terms");
        }
        if (orders.isOver(which, below, top)) {
            return 1;
        }
        if (orders.isOver(which, top, below)) {
            return -1;
        }
        return top.isLike(below) ? 0 : 9;
    }

    public int equation() throws IllegalStateException {
        Word top = fromTop(0);
        Word below = fromTop(1);
        if (top == null || below == null || rows.equationCount >= rows.equations.length
                || rows.waitCount >= rows.waiting.length) {
            throw new IllegalStateException("there are no two terms, or a row is full");
        }
        stackSize -= 2;
        return rows.told(below, top, names);
    }

    public int condition() throws IllegalStateException, IllegalArgumentException {
        int n = rows.guardedCount;
        if (stackSize < 4 || n < 0 || n >= rows.guarded.length) {
            throw new IllegalStateException("there are no four terms, or the row is full");
        }
        Word left = fromTop(3);
        if (!hasPlace(left, 0) || left.at[0] < 0 || !isGuardable(left)) {
            throw new IllegalArgumentException("the left side is not greater");
        }
        Pair rule = new Pair();
        rule.left = namedFromTop(3);
        rule.right = namedFromTop(2);
        rule.one = namedFromTop(1);
        rule.other = namedFromTop(0);
        rows.guarded[n] = rule;
        rows.guardedCount++;
        stackSize -= 4;
        return n;
    }

    /** Whether the three terms on the top may stand with this left side; its variables are named. */
    private boolean isGuardable(Word left) {
        Arrays.fill(names, NONE);
        int known = Word.name(names, 0, left.at, left.size);
        for (int k = 0; k < 3; k++) {
            Word w = fromTop(k);
            if (w == null || Word.name(names, known, w.at, w.size) > known || !orders.isOver(orders.which, left, w)) {
                return false;
            }
        }
        return true;
    }

    private int[] namedFromTop(int i) {
        Word w = fromTop(i);
        return Word.named(w == null ? first : w, names, NOTHING);
    }

    public int order(int which) throws IllegalArgumentException, IllegalStateException {
        if (which != 0 && which != 1) {
            throw new IllegalArgumentException("no such order");
        }
        if (rows.ruleCount > 0 || rows.unturnedCount > 0 || rows.guardedCount > 0) {
            throw new IllegalStateException("the order is in use");
        }
        int before = orders.which;
        orders.which = which;
        rows.isStuck = false;
        return before;
    }

    public int step(int strategy) throws IllegalArgumentException, IllegalStateException {
        if (strategy < 0 || strategy > 3) {
            throw new IllegalArgumentException("no such strategy");
        }
        Word top = fromTop(0);
        stepper.refresh();
        int place = top == null ? BROKEN : stepper.goes(top, strategy, true);
        if (place == BROKEN) {
            throw new IllegalStateException("the stack is empty, or a bound is not kept");
        }
        return place;
    }

    public int end(int strategy) throws IllegalArgumentException, IllegalStateException {
        if (strategy < 0 || strategy > 3) {
            throw new IllegalArgumentException("no such strategy");
        }
        Word top = loaded();
        int count = top == null ? BROKEN : stepper.goes(first, strategy, false);
        if (top == null || count < 0) {
            throw new IllegalStateException("the stack is empty, or a bound is not kept");
        }
        top.set(first.at, first.size);
        return count;
    }

    public int steps(int strategy) throws IllegalArgumentException, IllegalStateException {
        if (strategy < 0 || strategy > 3) {
            throw new IllegalArgumentException("no such strategy");
        }
        int count = loaded() == null ? BROKEN : stepper.goes(first, strategy, false);
        if (count < 0) {
            throw new IllegalStateException("the stack is empty, or a bound is not kept");
        }
        return count;
    }

    /** The top, which stands in first too, to be taken to its end there; null if there is none. */
    private Word loaded() {
        Word top = fromTop(0);
        if (top != null) {
            stepper.refresh();
            first.set(top.at, top.size);
        }
        return top;
    }

    public int redexes() throws IllegalStateException {
        Word top = fromTop(0);
        stepper.refresh();
        int count = top == null ? BROKEN : stepper.scan(top, 0, top.size, false);
        if (count == BROKEN) {
            throw new IllegalStateException("the stack is empty, or a bound is not kept");
        }
        return count;
    }

    public int overlaps() throws IllegalStateException {
        int count = completion.peaks(NONE);
        if (count == BROKEN) {
            throw new IllegalStateException("a bound is not kept");
        }
        return count;
    }

    public String overlap(int i, int what)
            throws IllegalArgumentException, IllegalStateException, IndexOutOfBoundsException {
        if (what < 0 || what > 4) {
            throw new IllegalArgumentException("no such what");
        }
        int count = completion.peaks(i);
        if (count == BROKEN) {
            throw new IllegalStateException("a bound is not kept");
        }
        if (i < 0 || i >= count) {
            throw new IndexOutOfBoundsException("no such overlap");
        }
        Word w = what == 0 ? completion.peak : what % 2 == 1 ? completion.peakLeft : completion.peakRight;
        if (what > 2 && stepper.plainEnd(w, null) < 0) {
            throw new IllegalStateException("a bound is not kept");
        }
        return textOf(w);
    }

    public int missing() throws IllegalStateException {
        int i = completion.firstMissing();
        if (i == BROKEN) {
            throw new IllegalStateException("a bound is not kept");
        }
        return i;
    }

    public int complete() throws IllegalStateException {
        int told = completion.advance();
        if (told == BROKEN) {
            throw new IllegalStateException("refused");
        }
        return told;
    }

    public int finish(int most) throws IllegalArgumentException {
        if (most < 1 || most > 12) {
            throw new IllegalArgumentException("no such number");
        }
        int count = 0;
        while (count < most && completion.advance() >= 0) {
            count++;
        }
        return count;
    }

    public int restart() {
        rows.forget();
        for (int k = 0; k < rows.equationCount && k < rows.equations.length; k++) {
            Pair pair = rows.equations[k];
            if (pair != null) {
                rows.waits(pair);
            }
        }
        return rows.waitCount;
    }

    public int example(int n, boolean isFinished) throws IllegalArgumentException {
        if (n < 0 || n > 2) {
            throw new IllegalArgumentException("no such example");
        }
        stackSize = 0;
        symbolCount = 0;
        rows.forget();
        rows.equationCount = 0;
        orders.which = 0;
        tell(0, 1);
        tell(2, 1);
        tell(n == 0 ? 1 : 2, 1);
        if (n > 0) {
            tell(1, 1);
        }
        if (n == 2) {
            sums[1] = true;
        }
        tellAll(n == 0 ? GROUPS_TOLD : n == 1 ? LISTS_TOLD : RINGS_TOLD);
        if (isFinished && n != 1) {
            tellAll(n == 0 ? GROUPS_MORE : RINGS_MORE);
        }
        return rows.equationCount;
    }

    /** Tells equations, side behind side. */
    private void tellAll(int[] sides) {
        int p = 0;
        while (p < sides.length) {
            int middle = Word.behind(sides, p);
            int end = Word.behind(sides, middle);
            first.size = 0;
            second.size = 0;
            first.adds(sides, p, middle, MOST_SIZE);
            second.adds(sides, middle, end, MOST_SIZE);
            rows.told(first, second, names);
            p = end > p ? end : sides.length;
        }
    }

    public int many(int what) throws IllegalArgumentException {
        if (what < 0 || what > 11) {
            throw new IllegalArgumentException("no such what");
        }
        return counted(what);
    }

    private int counted(int what) {
        switch (what) {
            case 0:
                return symbolCount;
            case 1:
                return stackSize;
            case 2:
                return rows.equationCount;
            case 3:
                return rows.ruleCount;
            case 4:
                return rows.waitCount;
            case 5:
                return rows.unturnedCount;
            case 6:
                return rows.guardedCount;
            case 7:
                return orders.which;
            case 8:
                return rows.dropped;
            case 9:
                return rows.made;
            case 10:
                return rows.nextAge;
            default:
                return knocks;
        }
    }

    public String row(int what, int i) throws IllegalArgumentException, IndexOutOfBoundsException {
        if (what < 0 || what > 6) {
            throw new IllegalArgumentException("no such row");
        }
        if (i < 0 || i >= counted(what)) {
            throw new IndexOutOfBoundsException("nothing at that place");
        }
        writeRow(what, i);
        return out.toString();
    }

    private void writeRow(int what, int i) {
        out.setLength(0);
        if (what == 0) {
            writeSymbol(i);
        } else if (what == 1) {
            Word w = fromTop(stackSize - 1 - i);
            if (w != null) {
                Word.write(out, w.at, 0, w.size, open);
            }
        } else if (what == 6) {
            writePair(i);
        } else {
            Pair[] of = what == 2 ? rows.equations : what == 3 ? rows.rules : what == 4 ? rows.waiting : rows.unturned;
            Pair pair = i >= 0 && i < of.length ? of[i] : null;
            if (pair != null) {
                writeSides(pair.left, what == 3 ? '>' : '=', pair.right);
            }
        }
    }

    private void writeSymbol(int f) {
        if (!isSymbol(f)) {
            return;
        }
        out.append((char) ('a' + f)).append(arities[f]).append(orders.weights[f]);
        if (sums[f]) {
            out.append('+');
        }
    }

    private void writePair(int i) {
        Pair rule = i >= 0 && i < rows.guarded.length ? rows.guarded[i] : null;
        if (rule != null) {
            writeSides(rule.left, '>', rule.right);
            out.append('|');
            writeSides(rule.one, '=', rule.other);
        }
    }

    private void writeSides(int[] left, char between, int[] right) {
        Word.write(out, left, 0, left.length, open);
        out.append(between);
        Word.write(out, right, 0, right.length, open);
    }

    public int ofRule(int i, int what) throws IndexOutOfBoundsException, IllegalArgumentException {
        Pair rule = ruleAt(i);
        if (rule == null) {
            throw new IndexOutOfBoundsException("no such rule");
        }
        if (what < 0 || what > 2) {
            throw new IllegalArgumentException("no such what");
        }
        return what == 0 ? rule.left.length : what == 1 ? rule.right.length : Math.min(MANY_USES, rule.uses);
    }

    private Pair ruleAt(int i) {
        return i >= 0 && i < rows.ruleCount && i < rows.rules.length ? rows.rules[i] : null;
    }

    public boolean same() throws IllegalStateException {
        int alike = endsAlike();
        if (alike == BROKEN) {
            throw new IllegalStateException("there are no two terms, or a bound is not kept");
        }
        return alike == 1;
    }

    /** 1 if the plain ends of the second and the top are alike; both traces are made. */
    private int endsAlike() {
        Word top = fromTop(0);
        Word below = fromTop(1);
        if (top == null || below == null) {
            return BROKEN;
        }
        first.set(below.at, below.size);
        second.set(top.at, top.size);
        if (stepper.plainEnd(first, completion.first) < 0 || stepper.plainEnd(second, completion.second) < 0) {
            return BROKEN;
        }
        return first.isLike(second) ? 1 : 0;
    }

    /** How many uses the proof has; NONE if the ends are not alike. Its chain is the draft then. */
    private int proved() {
        int alike = endsAlike();
        if (alike != 1) {
            return alike == 0 ? NONE : BROKEN;
        }
        int count = completion.first.broughtBack() + completion.second.broughtBack();
        if (count > MOST_USES) {
            return BROKEN;
        }
        completion.draft.clear();
        completion.draft.addAll(completion.first);
        completion.draft.addTurned(completion.second);
        return count;
    }

    public int proofSize() throws IllegalStateException, NoSuchElementException {
        int count = proved();
        if (count == BROKEN) {
            throw new IllegalStateException("there are no two terms, or a bound is not kept");
        }
        if (count == NONE) {
            throw new NoSuchElementException("the ends are not alike");
        }
        return count;
    }

    public String proofUse(int i) throws IllegalStateException, NoSuchElementException, IndexOutOfBoundsException {
        int count = proofSize();
        if (i < 0 || i >= count) {
            throw new IndexOutOfBoundsException("no such use");
        }
        if (!isWalked(i + 1)) {
            throw new IllegalStateException("a bound is not kept");
        }
        out.setLength(0);
        out.append(proof.number).append(proof.isBack ? '<' : '>');
        proof.writePlace(out);
        return out.toString();
    }

    public String proofTerm(int i) throws IllegalStateException, NoSuchElementException, IndexOutOfBoundsException {
        int count = proofSize();
        if (i < 0 || i > count) {
            throw new IndexOutOfBoundsException("no such term");
        }
        if (!isWalked(i) || !stepper.forest.isWritten(proof.now(), out)) {
            throw new IllegalStateException("no text can be as long as that");
        }
        return out.toString();
    }

    /** Walks the proof as many uses far. */
    private boolean isWalked(int count) {
        Word below = fromTop(1);
        if (below == null) {
            return false;
        }
        proof.start(below.at, below.size, completion.draft);
        for (int k = 0; k < count; k++) {
            if (!proof.isMoved()) {
                return false;
            }
        }
        return true;
    }

    public boolean isProved() throws IllegalStateException, NoSuchElementException {
        int count = proofSize();
        Word top = fromTop(0);
        Word below = fromTop(1);
        return count >= 0 && top != null && below != null
                && proof.isLeading(below.at, below.size, top.at, top.size, completion.draft);
    }

    public int sumForm() throws IllegalStateException {
        Word top = fromTop(0);
        if (top == null) {
            throw new IllegalStateException("the stack is empty");
        }
        return summed(top);
    }

    public boolean likeSums() throws IllegalStateException {
        Word top = fromTop(0);
        Word below = fromTop(1);
        if (top == null || below == null) {
            throw new IllegalStateException("there are no two terms");
        }
        first.set(top.at, top.size);
        second.set(below.at, below.size);
        summed(first);
        summed(second);
        return first.isLike(second);
    }

    /** The sum form of w, from the last sum to the first one: what lies within is done then. Tells how many sums. */
    private int summed(Word w) {
        int count = 0;
        for (int p = w.size - 1; p >= 0; p--) {
            int c = p < w.at.length ? w.at[p] : NONE;
            if (c >= 0 && isSymbol(c / 3) && sums[c / 3]) {
                sort(w, p, c);
                count++;
            }
        }
        return count;
    }

    /** Sorts the items of the sum at p, whose arguments are in their sum form. */
    private void sort(Word w, int p, int sum) {
        // No names are needed while this lasts.
        int[] items = names;
        int end = Word.behind(w.at, p);
        int count = 0;
        int q = p;
        while (q < end && q < w.at.length) {
            if (w.at[q] == sum) {
                q++;
                continue;
            }
            int k = count;
            while (k > 0 && k < items.length && isAhead(w.at, q, items[k - 1])) {
                items[k] = items[k - 1];
                k--;
            }
            if (k < items.length) {
                items[k] = q;
                count++;
            }
            q = Word.behind(w.at, q);
        }
        sorted.size = 0;
        for (int k = 0; k < count && k < items.length; k++) {
            if (k + 1 < count) {
                sorted.adds(w.at, p, p + 1, MOST_SIZE);
            }
            sorted.adds(w.at, items[k], Word.behind(w.at, items[k]), MOST_SIZE);
        }
        for (int k = 0; k < sorted.size && k < sorted.at.length && p + k < w.at.length; k++) {
            w.at[p + k] = sorted.at[k];
        }
    }

    /** Texts differ as their first signs do that are not the same; x is behind all letters. */
    private static boolean isAhead(int[] t, int p, int q) {
        int n = Math.min(Word.behind(t, p) - p, Word.behind(t, q) - q);
        for (int k = 0; k < n && p + k < t.length && q + k < t.length; k++) {
            int c = t[p + k];
            int d = t[q + k];
            if (c != d) {
                return c >= 0 && d >= 0 ? c < d : c >= 0 || d < 0 && c > d;
            }
        }
        return false;
    }

    public int ends(int size) throws IllegalArgumentException, IllegalStateException {
        if (size < 1 || size > 6) {
            throw new IllegalArgumentException("no such size");
        }
        int count = grounds.made(size, symbolCount);
        if (count == BROKEN) {
            throw new IllegalStateException("too many");
        }
        return count;
    }

    public int tables(int n) throws IllegalArgumentException, IllegalStateException {
        if (n != 2 && n != 3) {
            throw new IllegalArgumentException("no such number of values");
        }
        int all = values.lay(n, symbolCount);
        if (all == BROKEN) {
            throw new IllegalStateException("too many tables");
        }
        int count = 0;
        for (int k = 0; k < all; k++) {
            count += values.isModel(n) ? 1 : 0;
            values.advance(n);
        }
        return count;
    }

    public String table(int n) throws IllegalArgumentException, IllegalStateException {
        if (n != 2 && n != 3) {
            throw new IllegalArgumentException("no such number of values");
        }
        Word top = fromTop(0);
        Word below = fromTop(1);
        int all = top == null || below == null ? BROKEN : values.lay(n, symbolCount);
        if (all == BROKEN) {
            throw new IllegalStateException("there are no two terms, or too many tables");
        }
        for (int k = 0; k < all; k++) {
            if (values.isUnlike(below.at, below.size, top.at, top.size, n) && values.isModel(n)) {
                out.setLength(0);
                values.write(out, symbolCount);
                return out.toString();
            }
            values.advance(n);
        }
        return "-";
    }

    public int knock() {
        knocks++;
        return knocks;
    }

    public boolean isSound() {
        return isWhole();
    }

    private boolean isWhole() {
        for (int k = 0; k < rows.ruleCount; k++) {
            Pair rule = ruleAt(k);
            if (rule == null) {
                continue;
            }
            int[] left = rule.left;
            int[] right = rule.right;
            if (!orders.isGreater(orders.which, left, 0, left.length, right, right.length)) {
                return false;
            }
            if (rule.uses <= SOUND_USES && !proof.isLeading(left, left.length, right, right.length, rule.chain)) {
                return false;
            }
        }
        return rows.waitCount > 0 || rows.unturnedCount > 0 || completion.firstMissing() < 0;
    }

    public long digest() {
        long d = 6107;
        for (int what = 0; what < 12; what++) {
            d = d * 31 + counted(what);
        }
        for (int what = 0; what < 7; what++) {
            int n = counted(what);
            for (int i = 0; i < n; i++) {
                writeRow(what, i);
                for (int k = 0; k < out.length(); k++) {
                    d = d * 31 + out.charAt(k);
                }
                d = d * 31 + 10;
            }
        }
        for (int k = 0; k < rows.ruleCount; k++) {
            Pair rule = ruleAt(k);
            d = d * 31 + (rule == null ? 0 : Math.min(MANY_USES, rule.uses));
        }
        return d * 31 + (isWhole() ? 1 : 0);
    }

    /** A row of numbers of which the first ones count. */
    private static final class Word {
        int[] at;
        int size;

        Word(int most) {
            at = new int[most < 1 ? 1 : most];
        }

        void set(int[] t, int n) {
            int count = n < 0 ? 0 : n > at.length ? at.length : n;
            count = count > t.length ? t.length : count;
            System.arraycopy(t, 0, at, 0, count);
            size = count;
        }

        /** Becomes a single sign. */
        void begin(int c) {
            size = 0;
            if (at.length > 0) {
                at[0] = c;
                size = 1;
            }
        }

        /** Adds some of t, if that keeps the size below most; tells whether it did. */
        boolean adds(int[] t, int from, int to, int most) {
            int n = to - from;
            if (from < 0 || n < 0 || to > t.length) {
                return false;
            }
            if (size + n > most || size + n > at.length) {
                return false;
            }
            System.arraycopy(t, from, at, size, n);
            size += n;
            return true;
        }

        boolean isLike(Word other) {
            return size == other.size && isAlike(at, 0, other.at, 0, size);
        }

        /** The number behind the part that begins at p. */
        static int behind(int[] t, int p) {
            int q = p;
            int missing = 1;
            while (missing > 0 && q >= 0 && q < t.length) {
                int c = t[q];
                missing += (c < 0 ? 0 : c % 3) - 1;
                q++;
            }
            return q;
        }

        static boolean isAlike(int[] a, int p, int[] b, int q, int n) {
            if (p < 0 || q < 0 || n < 0 || p + n > a.length || q + n > b.length) {
                return false;
            }
            for (int k = 0; k < n; k++) {
                if (a[p + k] != b[q + k]) {
                    return false;
                }
            }
            return true;
        }

        /** Gives the variables of t, that have none yet, the next names; tells how many names there are. */
        static int name(int[] names, int known, int[] t, int n) {
            int next = known;
            for (int k = 0; k < n && k < t.length; k++) {
                int v = -1 - t[k];
                if (v >= 0 && v < names.length && names[v] < 0) {
                    names[v] = next;
                    next++;
                }
            }
            return next;
        }

        /** What has no name becomes x0, as the uses of a chain need it. */
        static void rename(int[] t, int from, int to, int[] names) {
            for (int k = from; k < to && k < t.length; k++) {
                int v = k < 0 ? NONE : -1 - t[k];
                if (v >= 0 && v < names.length) {
                    t[k] = -1 - (names[v] < 0 ? 0 : names[v]);
                }
            }
        }

        /** The term of w with other names, in a row that may be used again if it is as long. */
        static int[] named(Word w, int[] names, int[] used) {
            int n = w.size < 0 ? 0 : w.size;
            int[] t = used.length == n ? used : new int[n];
            for (int k = 0; k < n && k < w.at.length; k++) {
                int v = -1 - w.at[k];
                t[k] = v < 0 || v >= names.length || names[v] < 0 ? w.at[k] : -1 - names[v];
            }
            return t;
        }

        static int greatestVariable(int[] t, int n) {
            int greatest = NONE;
            for (int k = 0; k < n && k < t.length; k++) {
                greatest = Math.max(greatest, -1 - t[k]);
            }
            return greatest;
        }

        static int deepest(int[] t, int n, int[] open) {
            int depth = 0;
            int most = 0;
            for (int k = 0; k < n && k < t.length; k++) {
                int count = t[k] < 0 ? 0 : t[k] % 3;
                most = Math.max(most, depth + 1);
                if (count > 0 && depth < open.length) {
                    open[depth] = count;
                    depth++;
                } else {
                    depth = closed(open, depth);
                }
            }
            return most;
        }

        /** How many symbols still wait for arguments behind one that waits for none. */
        private static int closed(int[] open, int depth) {
            int d = depth;
            while (d > 0 && d <= open.length) {
                open[d - 1]--;
                if (open[d - 1] > 0) {
                    break;
                }
                d--;
            }
            return d;
        }

        static void write(StringBuilder out, int[] t, int from, int to, int[] open) {
            int depth = 0;
            for (int k = from; k < to && k >= 0 && k < t.length; k++) {
                int c = t[k];
                if (c < 0) {
                    out.append('x').append(-1 - c);
                } else {
                    out.append((char) ('a' + c / 3));
                }
                if (c >= 0 && c % 3 > 0 && depth < open.length) {
                    out.append('(');
                    open[depth] = c % 3;
                    depth++;
                } else {
                    int left = closed(open, depth);
                    for (int d = left; d < depth; d++) {
                        out.append(')');
                    }
                    if (left > 0) {
                        out.append(',');
                    }
                    depth = left;
                }
            }
        }
    }

    /**
     * Two sides: an equation (with a number), a rule, an unturned one, or what waits; or a conditional rule.
     * Of an overlap the chain is not kept: the rules and the place tell it.
     */
    private static final class Pair {
        int[] left = NOTHING;
        int[] right = NOTHING;
        int[] one = NOTHING;
        int[] other = NOTHING;
        int variables;
        int number = NONE;
        int uses;
        Chain chain;
        Pair over;
        Pair under;
        int place;
        private Chain spare;

        /** Becomes the pair of two terms, named; the names are told. */
        void becomes(Word a, Word b, int[] names) {
            Arrays.fill(names, NONE);
            variables = Word.name(names, 0, a.at, a.size);
            variables = Word.name(names, variables, b.at, b.size);
            left = Word.named(a, names, left);
            right = Word.named(b, names, right);
            chain = null;
            over = null;
            under = null;
        }

        /** Takes uses over as its chain. */
        void takes(Chain c) {
            if (spare == null || spare.refs.length < c.uses || spare.code.length < c.length) {
                spare = new Chain(c.uses, c.length);
            }
            chain = spare;
            chain.clear();
            chain.addAll(c);
        }
    }

    /**
     * A row of uses. Each is written as: its length, 1 if it is back, how many arguments lead to its place,
     * these, how many variables it puts something for, for each the size and the term, its length again
     * (so that a chain can be walked from both ends).
     */
    private static final class Chain {
        final Pair[] refs;
        final int[] code;
        int uses;
        int length;
        private int head;

        Chain(int mostUses, int most) {
            refs = new Pair[mostUses < 0 ? 0 : mostUses];
            code = new int[most < 0 ? 0 : most];
        }

        void clear() {
            uses = 0;
            length = 0;
        }

        void cell(int v) {
            if (length >= 0 && length < code.length) {
                code[length] = v;
                length++;
            }
        }

        int at(int k) {
            return k >= 0 && k < code.length ? code[k] : 0;
        }

        /** Begins a use at a place of t; what it puts for each variable has to follow. */
        void opens(Pair pair, boolean isBack, int[] t, int place) {
            if (uses < refs.length) {
                refs[uses] = pair;
                uses++;
            }
            head = length;
            cell(0);
            cell(isBack ? 1 : 0);
            cell(0);
            int p = 0;
            while (p < place) {
                int argument = 0;
                int child = p + 1;
                int next = Word.behind(t, child);
                while (next <= place && argument < 2) {
                    child = next;
                    next = Word.behind(t, child);
                    argument++;
                }
                cell(argument);
                p = child;
            }
            if (head + 2 < code.length) {
                code[head + 2] = length - head - 3;
            }
            cell(pair.variables);
        }

        void closes() {
            int n = length - head + 1;
            cell(n);
            if (head >= 0 && head < code.length) {
                code[head] = n;
            }
        }

        void puts(int[] t, int from, int to) {
            cell(to - from);
            for (int k = from; k < to && k >= 0 && k < t.length; k++) {
                cell(t[k]);
            }
        }

        /** A step of w at a place, by the binding that made it. */
        void addStep(Pair pair, boolean isBack, Word w, int place, int[] bound) {
            opens(pair, isBack, w.at, place);
            for (int v = 0; v < pair.variables; v++) {
                int p = v < bound.length ? bound[v] : NONE;
                if (p >= 0) {
                    puts(w.at, p, Word.behind(w.at, p));
                } else {
                    cell(1);
                    cell(-1);
                }
            }
            closes();
        }

        void addAll(Chain c) {
            for (int k = 0; k < c.uses && k < c.refs.length && uses < refs.length; k++) {
                refs[uses] = c.refs[k];
                uses++;
            }
            for (int k = 0; k < c.length; k++) {
                cell(c.at(k));
            }
        }

        /** Backwards and turned. */
        void addTurned(Chain c) {
            int end = c.length;
            for (int k = c.uses - 1; k >= 0 && k < c.refs.length && uses < refs.length; k--) {
                int from = end - c.at(end - 1);
                refs[uses] = c.refs[k];
                uses++;
                for (int q = from; q < end; q++) {
                    cell(q == from + 1 ? 1 - c.at(q) : c.at(q));
                }
                end = from;
            }
        }

        void rename(int[] names) {
            int p = 0;
            for (int k = 0; k < uses; k++) {
                int q = p + 3 + at(p + 2);
                int n = at(q);
                q++;
                for (int v = 0; v < n; v++) {
                    int size = at(q);
                    Word.rename(code, q + 1, q + 1 + size, names);
                    q += 1 + size;
                }
                p += at(p);
            }
        }

        /** How many uses it has, brought back. */
        int broughtBack() {
            int sum = 0;
            for (int k = 0; k < uses && k < refs.length; k++) {
                Pair p = refs[k];
                sum = Math.min(MANY_USES + 1, sum + (p == null ? 0 : p.uses));
            }
            return sum;
        }
    }

    /** All rows but the stack and the symbols. */
    private static final class Rows {
        final Pair[] equations = new Pair[10];
        int equationCount;
        final Pair[] rules = new Pair[14];
        int ruleCount;
        final Pair[] unturned = new Pair[6];
        int unturnedCount;
        final Pair[] waiting = new Pair[120];
        int waitCount;
        final Pair[] guarded = new Pair[4];
        int guardedCount;
        int nextAge;
        int dropped;
        int made;
        /** All pairs that came about since the last restart, as far as there is room. */
        private final Pair[] pairs = new Pair[3000];
        private int pairCount;
        private final Pair[] keptRules = new Pair[14];
        private final Pair[] keptWaiting = new Pair[120];
        private final int[] keptCounts = new int[4];
        /** The next step is known to be refused; so it isn't tried again before something is told. */
        boolean isStuck;

        /** What waits is held in the order in which it is taken; of the same size the oldest is ahead. */
        boolean waits(Pair pair) {
            if (waitCount < 0 || waitCount >= waiting.length) {
                return false;
            }
            nextAge++;
            int k = waitCount;
            while (k > 0 && isAhead(pair, waiting[k - 1])) {
                waiting[k] = waiting[k - 1];
                k--;
            }
            waiting[k] = pair;
            waitCount++;
            return true;
        }

        /** A new one is never ahead of one with the same size. */
        private static boolean isAhead(Pair young, Pair old) {
            return old != null && young.left.length + young.right.length < old.left.length + old.right.length;
        }

        Pair takeNext() {
            Pair next = waitCount > 0 ? waiting[0] : null;
            for (int k = 1; k < waitCount && k < waiting.length; k++) {
                waiting[k - 1] = waiting[k];
            }
            if (next != null) {
                waitCount--;
            }
            return next;
        }

        void removeRule(int i) {
            for (int k = i; k >= 0 && k + 1 < ruleCount && k + 1 < rules.length; k++) {
                rules[k] = rules[k + 1];
            }
            ruleCount--;
        }

        void keep() {
            copy(rules, keptRules);
            copy(waiting, keptWaiting);
            keptCounts[0] = ruleCount;
            keptCounts[1] = waitCount;
            keptCounts[2] = nextAge;
            keptCounts[3] = pairCount;
        }

        void bringBack() {
            copy(keptRules, rules);
            copy(keptWaiting, waiting);
            ruleCount = keptCounts[0];
            waitCount = keptCounts[1];
            nextAge = keptCounts[2];
            pairCount = keptCounts[3];
        }

        private static void copy(Pair[] from, Pair[] to) {
            for (int k = 0; k < from.length && k < to.length; k++) {
                to[k] = from[k];
            }
        }

        void forget() {
            ruleCount = 0;
            unturnedCount = 0;
            waitCount = 0;
            guardedCount = 0;
            pairCount = 0;
            isStuck = false;
        }

        /** A new equation of the sides a and b; it waits. */
        int told(Word a, Word b, int[] names) {
            int n = equationCount;
            if (n < 0 || n >= equations.length) {
                return NONE;
            }
            Pair pair = new Pair();
            pair.becomes(a, b, names);
            pair.number = n;
            pair.uses = 1;
            equations[n] = pair;
            equationCount++;
            isStuck = false;
            waits(pair);
            return n;
        }

        /** A new pair of the sides a and b; those that came about ahead of a restart are used again. */
        Pair paired(Word a, Word b, int[] names) {
            Pair pair = null;
            if (pairCount >= 0 && pairCount < pairs.length) {
                if (pairs[pairCount] == null) {
                    pairs[pairCount] = new Pair();
                }
                pair = pairs[pairCount];
                pairCount++;
            }
            if (pair == null) {
                pair = new Pair();
            }
            pair.becomes(a, b, names);
            return pair;
        }
    }

    /** The two orders. */
    private static final class Orders {
        int which;
        final int[] weights = new int[SYMBOLS];
        /** For a place of each of two terms 2 if the parts there are alike, 1 if the first one is greater. */
        private final byte[] found = new byte[(MOST_SIZE + 1) * COMES];
        private final int[] ends = new int[MOST_SIZE + 2];
        private final int[] otherEnds = new int[COMES + 2];
        private final int[] often = new int[NAMES];

        boolean isOver(int order, Word s, Word t) {
            return isGreater(order, s.at, 0, s.size, t.at, t.size);
        }

        /** Whether the part of s from one place up to another is greater than t. */
        boolean isGreater(int order, int[] s, int from, int to, int[] t, int n) {
            int m = to - from;
            if (from < 0 || m < 1 || n < 1 || to > s.length || n > t.length) {
                return false;
            }
            if (m >= ends.length || n >= otherEnds.length || m * n > found.length) {
                return false;
            }
            measure(s, from, m, ends);
            measure(t, 0, n, otherEnds);
            return order == 0 ? isByPaths(s, from, m, t, n) : isByWeights(s, from, m, t, n);
        }

        /** For each place the place behind its part. */
        private static void measure(int[] t, int from, int n, int[] ends) {
            for (int k = n - 1; k >= 0; k--) {
                int c = t[from + k];
                int end = k + 1;
                for (int a = c < 0 ? 0 : c % 3; a > 0 && end < n; a--) {
                    end = ends[end];
                }
                ends[k] = end;
            }
        }

        /** From the last places to the first ones, so that all about arguments is found ahead of what needs it. */
        private boolean isByPaths(int[] s, int from, int m, int[] t, int n) {
            for (int i = m - 1; i >= 0; i--) {
                int c = s[from + i];
                for (int j = n - 1; j >= 0; j--) {
                    int d = t[j];
                    boolean isInside = false;
                    int a = i + 1;
                    for (int k = c < 0 ? 0 : c % 3; k > 0 && a < m; k--) {
                        isInside = isInside || found[a * n + j] != 0;
                        a = ends[a];
                    }
                    boolean isOver = true;
                    int differ = 2;
                    a = i + 1;
                    int b = j + 1;
                    for (int k = d < 0 ? 0 : d % 3; k > 0 && b < n; k--) {
                        isOver = isOver && found[i * n + b] == 1;
                        if (c == d && differ == 2 && a < m) {
                            differ = found[a * n + b];
                            a = ends[a];
                        }
                        b = otherEnds[b];
                    }
                    int value = 0;
                    if (c == d && differ == 2) {
                        value = 2;
                    } else if (isInside || d >= 0 && c >= d && isOver && (c > d || differ == 1)) {
                        value = 1;
                    }
                    found[i * n + j] = (byte) value;
                }
            }
            return found[0] == 1;
        }

        private boolean isByWeights(int[] s, int from, int m, int[] t, int n) {
            int p = 0;
            int q = 0;
            int end = m;
            int otherEnd = n;
            while (p < end && q < otherEnd) {
                Arrays.fill(often, 0);
                int more = 0;
                boolean isLacking = false;
                for (int k = p; k < end; k++) {
                    int v = -1 - s[from + k];
                    if (v >= 0 && v < often.length) {
                        often[v]++;
                    }
                    more += v >= 0 ? 1 : s[from + k] / 3 < weights.length ? weights[s[from + k] / 3] : 0;
                }
                for (int k = q; k < otherEnd; k++) {
                    int v = -1 - t[k];
                    if (v >= 0 && v < often.length) {
                        often[v]--;
                        isLacking = isLacking || often[v] < 0;
                    }
                    more -= v >= 0 ? 1 : t[k] / 3 < weights.length ? weights[t[k] / 3] : 0;
                }
                int c = s[from + p];
                if (isLacking || more != 0 || c < 0 || t[q] < 0) {
                    return !isLacking && more > 0;
                }
                if (c != t[q]) {
                    return c > t[q];
                }
                int k = 1;
                while (p + k < end && q + k < otherEnd && s[from + p + k] == t[q + k]) {
                    k++;
                }
                int a = p + 1;
                while (a < end && ends[a] <= p + k) {
                    a = ends[a];
                }
                // What is ahead of these arguments is the same in both.
                q += a - p;
                p = a;
                end = p < end ? ends[p] : end;
                otherEnd = q < otherEnd ? otherEnds[q] : otherEnd;
            }
            return false;
        }

        int weightOf(Word w) {
            int sum = 0;
            for (int k = 0; k < w.size && k < w.at.length; k++) {
                int f = w.at[k] < 0 ? NONE : w.at[k] / 3;
                sum += f < 0 ? 1 : f < weights.length ? weights[f] : 0;
            }
            return sum;
        }
    }

    /**
     * Terms, each held once: a node is a sign with the nodes of its arguments, whose numbers are smaller than
     * its own. A key holds, from the lowest bit on, the sign (4 bits; 15 is a variable), two arguments (21 each;
     * of a variable the first one is its number), the size (6; 63 if it is greater), a number of steps (6),
     * whether it is open (1), a stage (4), and whether it is kept as room is made (the sign).
     * A note holds the next node in its row of the table (21), and what comes for it and its end (21 each), or one
     * number in place of both. What these and stages and steps are is for those to say who ask for them.
     */
    private static final class Forest {
        static final int VARIABLE = 15;
        /** Smaller numbers are no nodes. */
        static final int FIRST = 4;
        /** In place of the node that waits: it was written on the shelf last. */
        static final int SHELF = 1;
        /** The stage of a node behind all looks, and what comes for it if no use was found. */
        static final int LOOKED = 15;
        static final int NO_USE = 1;
        private static final int BITS = 21;
        private static final int LOW = (1 << BITS) - 1;
        private static final int MOST = 1 << BITS;
        private static final int ROOM = 1 << 12;
        /** More than this is never made between two looks at the room that is left. */
        private static final int RESERVE = 1 << 10;
        /** What one that waits needs on the shelf at most, and how long the shelf gets. */
        private static final int RECORD = 16;
        private static final int MOST_SHELF = 1 << 28;
        private static final int VARIABLES = 128;
        private static final long TERM = (1L << 46) - 1;
        private static final long KEPT = 1L << 63;
        private static final long MIXED = 0x9E3779B97F4A7C15L;
        private static final long NINE_DIGITS = 1000000000;
        private long[] keys = new long[ROOM];
        private long[] notes = new long[ROOM];
        /** The first node of each row of the table, three rows (21 bits each) in a number. */
        private long[] heads = new long[ROOM / 4];
        private int count = FIRST;
        private final int[] held = new int[2 * MOST_SIZE];
        /** The way to a part: the nodes above it, and whether it goes on with the second argument of each. */
        final int[] way = new int[MOST_SIZE + 2];
        final boolean[] isSecond = new boolean[MOST_SIZE + 2];
        /** The end that was found last. */
        int last;
        /** Those that wait and have no room as nodes: eight signs in a number, and a number that tells the rest. */
        private long[] shelf = new long[0];
        private int shelved;
        private final int[] signs = new int[MOST_SIZE];

        void clear() {
            count = FIRST;
            shelved = 0;
            Arrays.fill(heads, 0);
        }

        private boolean isNode(int n) {
            return n >= FIRST && n < count && n < keys.length && n < notes.length;
        }

        int sign(int n) {
            return n < FIRST || n >= count ? 0 : (int) keys[n] & 15;
        }

        int arguments(int n) {
            int c = n < FIRST || n >= count ? 0 : (int) keys[n] & 15;
            return c == VARIABLE ? 0 : c % 3;
        }

        int first(int n) {
            return n < FIRST || n >= count ? 0 : (int) (keys[n] >>> 4) & LOW;
        }

        int second(int n) {
            return n < FIRST || n >= count ? 0 : (int) (keys[n] >>> 25) & LOW;
        }

        int sizeOf(int n) {
            return n < FIRST || n >= count ? 0 : (int) (keys[n] >>> 46) & 63;
        }

        int stepsOf(int n) {
            return n < FIRST || n >= count ? 0 : (int) (keys[n] >>> 52) & 63;
        }

        boolean isOpen(int n) {
            return n >= FIRST && n < count && (keys[n] >>> 58 & 1) == 1;
        }

        int stageOf(int n) {
            return n < FIRST || n >= count ? 0 : (int) (keys[n] >>> 59) & 15;
        }

        int comesOf(int n) {
            return n < FIRST || n >= count ? 0 : (int) (notes[n] >>> BITS) & LOW;
        }

        int endOf(int n) {
            return n < FIRST || n >= count ? 0 : (int) (notes[n] >>> 2 * BITS) & LOW;
        }

        private static long with(long word, int from, int n, long value) {
            long mask = (1L << n) - 1 << from;
            return word & ~mask | value << from & mask;
        }

        void setStage(int n, int stage, int comes) {
            if (n >= FIRST && n < count) {
                keys[n] = with(keys[n], 59, 4, stage);
                notes[n] = with(notes[n], BITS, BITS, comes);
            }
        }

        void setEnd(int n, boolean isOpen, int end, int steps) {
            if (n >= FIRST && n < count) {
                keys[n] = with(with(keys[n], 52, 6, steps), 58, 1, isOpen ? 1 : 0);
                notes[n] = with(notes[n], 2 * BITS, BITS, end);
            }
        }

        /** The node of a sign with these arguments; 0 if there is no room. */
        int node(int sign, int a, int b) {
            long key = sign | (long) a << 4 | (long) b << 25;
            long mixed = (key ^ key >>> 25) * MIXED;
            int head = (int) (mixed >>> 40) & heads.length - 1;
            int row = (int) ((mixed >>> 32 & 255) * 3 >>> 8) * BITS;
            int last = count;
            int n = (int) (heads[head] >>> row) & LOW;
            // Each node of a row has a smaller number than the one ahead of it.
            while (n >= FIRST && n < last) {
                if ((keys[n] & TERM) == key) {
                    return n;
                }
                last = n;
                n = (int) notes[n] & LOW;
            }
            if (count >= keys.length) {
                return 0;
            }
            int arguments = sign == VARIABLE ? 0 : sign % 3;
            long size = 1;
            size += arguments > 0 && a >= FIRST && a < count ? keys[a] >>> 46 & 63 : 0;
            size += arguments > 1 && b >= FIRST && b < count ? keys[b] >>> 46 & 63 : 0;
            keys[count] = key | (size > 63 ? 63 : size) << 46;
            notes[count] = heads[head] >>> row & LOW;
            heads[head] = heads[head] & ~((long) LOW << row) | (long) count << row;
            count++;
            return count - 1;
        }

        /**
         * The node of the term from one place up to another; puts tells from a place on how many, and which, nodes
         * are put for variables. 0 if that is no term, or there is no room.
         */
        int planted(int[] t, int from, int to, int[] puts, int at) {
            int n = at >= 0 && at < puts.length ? puts[at] : 0;
            int h = 0;
            for (int k = Math.min(to, t.length) - 1; k >= from && k >= 0; k--) {
                int c = t[k];
                int made;
                if (c < 0) {
                    int p = -1 - c < n ? at - c : puts.length;
                    made = p >= 0 && p < puts.length ? puts[p] : node(VARIABLE, -1 - c, 0);
                } else {
                    int arguments = c % 3;
                    if (h < arguments) {
                        return 0;
                    }
                    int a = arguments > 0 ? held[h - 1] : 0;
                    int b = arguments > 1 ? held[h - 2] : 0;
                    h -= arguments;
                    made = node(c, a, b);
                }
                if (made < FIRST || h >= held.length) {
                    return 0;
                }
                held[h] = made;
                h++;
            }
            return h == 1 ? held[0] : 0;
        }

        /** Whether a pattern matches a node; what is put for its variables is told. */
        boolean takes(int[] pattern, int node, int[] puts) {
            if (pattern.length < 1 || pattern[0] >= 0 && pattern[0] != sign(node) || puts.length < 1) {
                return false;
            }
            Arrays.fill(puts, 0);
            puts[0] = puts.length - 1;
            held[0] = node;
            int h = 1;
            for (int k = 0; k < pattern.length && h > 0 && h < held.length; k++) {
                h--;
                int n = held[h];
                int v = -1 - pattern[k];
                if (v < 0) {
                    int arguments = arguments(n);
                    if (sign(n) != pattern[k]) {
                        return false;
                    }
                    held[h] = arguments > 1 ? second(n) : first(n);
                    held[h + 1] = first(n);
                    h += arguments;
                } else if (v >= puts.length - 1 || puts[v + 1] != 0 && puts[v + 1] != n) {
                    return false;
                } else {
                    puts[v + 1] = n;
                }
            }
            return h == 0;
        }

        /** Writes a term of the bound of size. */
        void write(int node, Word out) {
            int h = 1;
            held[0] = node;
            out.size = 0;
            while (h > 0 && h + 1 < held.length && out.size < out.at.length) {
                int n = held[h - 1];
                int c = sign(n);
                int arguments = arguments(n);
                h--;
                out.at[out.size] = c == VARIABLE ? -1 - first(n) : c;
                out.size++;
                if (arguments > 1) {
                    held[h] = second(n);
                    h++;
                }
                if (arguments > 0) {
                    held[h] = first(n);
                    h++;
                }
            }
        }

        /** What becomes of the term on the way to a part, as that part becomes something else. */
        int rebuilt(int depth, int made) {
            int n = made;
            for (int k = Math.min(depth, way.length) - 1; k >= 0 && n >= FIRST; k--) {
                int over = way[k];
                n = isSecond[k] ? node(sign(over), first(over), n) : node(sign(over), n, second(over));
            }
            return n;
        }

        boolean isNearlyFull() {
            return count > keys.length - RESERVE;
        }

        /** Tells whether there is more room then. */
        boolean grows() {
            if (keys.length >= MOST) {
                return false;
            }
            int length = Math.min(MOST, 8 * keys.length);
            keys = Arrays.copyOf(keys, length);
            notes = Arrays.copyOf(notes, length);
            heads = new long[length / 4];
            link();
            return true;
        }

        /** Brings all nodes into the rows of the table. */
        private void link() {
            Arrays.fill(heads, 0);
            for (int n = FIRST; n < count && isNode(n); n++) {
                long key = keys[n] & TERM;
                long mixed = (key ^ key >>> 25) * MIXED;
                int head = (int) (mixed >>> 40) & heads.length - 1;
                int row = (int) ((mixed >>> 32 & 255) * 3 >>> 8) * BITS;
                notes[n] = with(notes[n], 0, BITS, heads[head] >>> row & LOW);
                heads[head] = with(heads[head], row, BITS, n);
            }
        }

        /** Whether it is better that what waits is written on the shelf. */
        boolean isCrowded() {
            return count > keys.length - keys.length / 4;
        }

        /**
         * Makes room as there is no more. Of what was noted lately ever less is kept, till a quarter of the room is
         * free; it is found once more if it is asked for. But what the open nodes need is kept always, and the end
         * that was found last: so the work goes on, whatever is forgotten. Tells the new number of an open node.
         */
        int makeRoom(int open) {
            int kept = count;
            for (int share = 2; share <= 128 && kept > keys.length - keys.length / 4; share *= 4) {
                mark(share == 128 ? count : count - count / share);
                spread();
                if (share == 128) {
                    spreadOnce();
                } else {
                    spreadAll();
                }
                spread();
                kept = number();
            }
            int moved = renamed(open);
            last = renamed(last);
            rename();
            move(kept);
            link();
            return moved;
        }

        /** Nodes from one on, those that are open, and the end that was found last are to be kept. */
        private void mark(int from) {
            for (int n = FIRST; n < count && isNode(n); n++) {
                keys[n] = n >= from || n == last || isOpen(n) ? keys[n] | KEPT : keys[n] & ~KEPT;
            }
        }

        /** What is kept keeps its arguments. */
        private void spread() {
            for (int n = count - 1; n >= FIRST && n < keys.length; n--) {
                if (keys[n] < 0) {
                    int arguments = arguments(n);
                    keep(arguments > 0 ? first(n) : 0);
                    keep(arguments > 1 ? second(n) : 0);
                }
            }
        }

        /** What is kept keeps what comes for it, and its end; and so do these, if they are older. */
        private void spreadAll() {
            for (int n = count - 1; n >= FIRST && n < keys.length; n--) {
                if (keys[n] < 0) {
                    int arguments = arguments(n);
                    keep(arguments > 0 ? first(n) : 0);
                    keep(arguments > 1 ? second(n) : 0);
                    keep(comesOf(n));
                    keep(endOf(n));
                }
            }
        }

        /** What is kept keeps what comes for it, and its end; these don't. */
        private void spreadOnce() {
            for (int n = count - 1; n >= FIRST && n < keys.length; n--) {
                if (keys[n] < 0) {
                    found(comesOf(n));
                    found(endOf(n));
                }
            }
            for (int n = FIRST; n < count && n < notes.length; n++) {
                if (notes[n] < 0) {
                    notes[n] &= ~KEPT;
                    keep(n);
                }
            }
        }

        private void found(int n) {
            if (n >= FIRST && n < count && n < notes.length) {
                notes[n] |= KEPT;
            }
        }

        private void keep(int n) {
            if (n >= FIRST && n < count && n < keys.length) {
                keys[n] |= KEPT;
            }
        }

        /** Each node that is kept notes its new number; tells the one behind the last. */
        private int number() {
            int next = FIRST;
            for (int n = FIRST; n < count && isNode(n); n++) {
                if (keys[n] < 0) {
                    notes[n] = with(notes[n], 0, BITS, next);
                    next++;
                }
            }
            return next;
        }

        /** The new number of a node; 0 if it is not kept. */
        private int renamed(int n) {
            if (n < FIRST) {
                return n;
            }
            return isNode(n) && keys[n] < 0 ? (int) notes[n] & LOW : 0;
        }

        private void rename() {
            for (int n = FIRST; n < count && isNode(n); n++) {
                if (keys[n] >= 0) {
                    continue;
                }
                int arguments = arguments(n);
                int comes = renamed(comesOf(n));
                int end = renamed(endOf(n));
                // A stage at which nothing comes yet stays what it is.
                setStage(n, comes == comesOf(n) || comes > 0 ? stageOf(n) : 0, comes);
                setEnd(n, isOpen(n), end, end == 0 && !isOpen(n) ? 0 : stepsOf(n));
                if (arguments > 0) {
                    keys[n] = with(keys[n], 4, BITS, renamed(first(n)));
                }
                if (arguments > 1) {
                    keys[n] = with(keys[n], 25, BITS, renamed(second(n)));
                }
            }
        }

        private void move(int behind) {
            for (int n = FIRST; n < count && isNode(n); n++) {
                int to = renamed(n);
                if (to >= FIRST && to <= n) {
                    keys[to] = keys[n] & ~KEPT;
                    notes[to] = notes[n];
                }
            }
            count = behind;
        }

        /** All that waits is written on the shelf, but for the last one. Tells whether there is room for it. */
        boolean isShelved(int open) {
            int above = 0;
            int n = waiter(open);
            // The row is turned, as the one that waits longest is written first.
            for (int k = 0; k < count && n >= FIRST; k++) {
                int below = waiter(n);
                setEnd(n, true, above, stepsOf(n));
                above = n;
                n = below;
            }
            for (int k = 0; k < count && above >= FIRST; k++) {
                if (shelved + RECORD > shelf.length && !isLonger()) {
                    return false;
                }
                n = above;
                above = endOf(n);
                shelve(n);
                setEnd(n, false, 0, 0);
            }
            setEnd(open, true, shelved > 0 ? SHELF : 0, stepsOf(open));
            return true;
        }

        /** The one that waits for an open node, or for the first of those from which steps led to it: they are shut. */
        private int waiter(int open) {
            int over = endOf(open);
            int steps = stepsOf(open);
            for (int k = 0; k < MOST_STEPS && steps > 0 && over >= FIRST; k++) {
                int n = over;
                over = endOf(n);
                steps = stepsOf(n);
                setEnd(n, false, 0, 0);
            }
            return over;
        }

        private boolean isLonger() {
            if (shelf.length >= MOST_SHELF) {
                return false;
            }
            shelf = Arrays.copyOf(shelf, Math.max(ROOM, 2 * shelf.length));
            return true;
        }

        /** Writes one that waits on the shelf, with the place that was looked at last, and how far. */
        private void shelve(int n) {
            int h = 1;
            int place = 0;
            int looked = n;
            held[0] = n;
            for (int k = 0; k < held.length && h > 0 && h + 1 < held.length; k++) {
                h--;
                looked = held[h];
                boolean isEnd = !isOpen(looked) && endOf(looked) == looked;
                if (!isEnd && (stageOf(looked) != LOOKED || comesOf(looked) != NO_USE)) {
                    break;
                }
                int arguments = isEnd ? 0 : arguments(looked);
                place += isEnd ? sizeOf(looked) : 1;
                held[h] = arguments > 1 ? second(looked) : first(looked);
                held[h + 1] = first(looked);
                h += arguments;
            }
            long stage = stageOf(looked);
            int comes = comesOf(looked);
            long sizeOfComes = comes < FIRST ? 0 : shelveSigns(comes);
            long size = shelveSigns(n);
            if (shelved < shelf.length) {
                shelf[shelved] = size | sizeOfComes << 8 | (long) stepsOf(n) << 16 | (long) place << 24 | stage << 32;
                shelved++;
            }
        }

        /** Writes a term on the shelf; tells how many signs it has. */
        private int shelveSigns(int term) {
            int h = 1;
            int size = 0;
            held[0] = term;
            while (h > 0 && h + 1 < held.length && size < MOST_SIZE && shelved < shelf.length) {
                h--;
                int n = held[h];
                int arguments = arguments(n);
                long sign = sign(n) == VARIABLE ? VARIABLES + first(n) % VARIABLES : sign(n);
                shelf[shelved] = size % 8 == 0 ? sign : shelf[shelved] | sign << size % 8 * 8;
                size++;
                shelved += size % 8 == 0 ? 1 : 0;
                held[h] = arguments > 1 ? second(n) : first(n);
                held[h + 1] = first(n);
                h += arguments;
            }
            shelved += size % 8 == 0 ? 0 : 1;
            return size;
        }

        /** The one that was written on the shelf last is a node again, and waits as it did; 0 if that may not be. */
        int unshelved() {
            if (shelved < 1 || shelved > shelf.length) {
                return 0;
            }
            shelved--;
            long rest = shelf[shelved];
            int n = unshelvedTerm((int) rest & 63);
            int comes = (rest >> 8 & 63) == 0 ? 0 : unshelvedTerm((int) (rest >> 8) & 63);
            int place = (int) (rest >> 24) & 63;
            int h = 1;
            held[0] = n;
            for (int k = 0; k <= place && h > 0 && h + 1 < held.length; k++) {
                h--;
                int part = held[h];
                int arguments = arguments(part);
                setStage(part, k < place ? LOOKED : (int) (rest >> 32) & 15, k < place ? NO_USE : comes);
                held[h] = arguments > 1 ? second(part) : first(part);
                held[h + 1] = first(part);
                h += arguments;
            }
            setEnd(n, true, shelved > 0 ? SHELF : 0, (int) (rest >> 16) & 63);
            return n;
        }

        /** The term of so many signs that was written on the shelf last. */
        private int unshelvedTerm(int size) {
            int from = shelved - (size + 7) / 8;
            if (from < 0 || size > signs.length) {
                return 0;
            }
            for (int k = 0; k < size && from + k / 8 < shelf.length; k++) {
                int sign = (int) (shelf[from + k / 8] >>> k % 8 * 8) & 255;
                signs[k] = sign < VARIABLES ? sign : VARIABLES - 1 - sign;
            }
            shelved = from;
            return planted(signs, 0, size, NOTHING, 0);
        }

        private void tell(int n, long value) {
            if (n >= FIRST && n < count) {
                notes[n] = with(notes[n], BITS, 2 * BITS, value);
            }
        }

        private long told(int n) {
            return n < FIRST || n >= count ? 0 : notes[n] >>> BITS;
        }

        /** Tells of each node the next nine digits of its size, from the last ones on; whether there are any. */
        boolean areSizesTold(boolean isFirst) {
            boolean isAny = false;
            for (int n = FIRST; n < count; n++) {
                int arguments = arguments(n);
                long sum = isFirst ? 1 : told(n) & 1;
                sum += arguments > 0 ? toldSize(first(n)) : 0;
                sum += arguments > 1 ? toldSize(second(n)) : 0;
                // What is over is 0 or 1.
                tell(n, sum % NINE_DIGITS * 2 + sum / NINE_DIGITS);
                isAny = isAny || sum > 0;
            }
            return isAny;
        }

        long toldSize(int n) {
            return told(n) >>> 1;
        }

        private void tellLengths() {
            for (int n = FIRST; n < count; n++) {
                int arguments = arguments(n);
                long length = sign(n) != VARIABLE ? 1 : first(n) < 10 ? 2 : 3;
                length += arguments > 0 ? 2 + told(first(n)) : 0;
                length += arguments > 1 ? 1 + told(second(n)) : 0;
                tell(n, Math.min(length, MOST_TEXT + 1));
            }
        }

        /** Writes the text of a term of any size, in a row that is made as long at once; not if none can be. */
        boolean isWritten(int term, StringBuilder out) {
            tellLengths();
            long length = told(term);
            if (length < 1 || length > MOST_TEXT) {
                return false;
            }
            out.setLength((int) length);
            held[0] = term;
            held[1] = 0;
            int h = 2;
            // Each time at least one sign is written.
            for (long k = 0; k < length && h > 1 && h + 2 <= held.length; k++) {
                h -= 2;
                h = writeSign(held[h], held[h + 1], out, h);
            }
            return true;
        }

        /** Writes a sign with what is around its arguments; these are held, the shorter one last, so that few are. */
        private int writeSign(int n, int from, StringBuilder out, int h) {
            int c = sign(n);
            int a = first(n);
            int b = second(n);
            if (c == VARIABLE) {
                set(out, from, 'x');
                set(out, from + 1, (char) ('0' + (a < 10 ? a : a / 10 % 10)));
                if (a >= 10) {
                    set(out, from + 2, (char) ('0' + a % 10));
                }
                return h;
            }
            set(out, from, (char) ('a' + c / 3));
            if (c % 3 == 0) {
                return h;
            }
            int behind = from + 2 + (int) told(a);
            set(out, from + 1, '(');
            set(out, behind, ',');
            set(out, from + (int) told(n) - 1, ')');
            if (c % 3 == 1) {
                return hold(a, from + 2, h);
            }
            if (told(a) > told(b)) {
                return hold(b, behind + 1, hold(a, from + 2, h));
            }
            return hold(a, from + 2, hold(b, behind + 1, h));
        }

        private static void set(StringBuilder out, int at, char sign) {
            if (at >= 0 && at < out.length()) {
                out.setCharAt(at, sign);
            }
        }

        private int hold(int n, int from, int h) {
            if (h < 0 || h + 1 >= held.length) {
                return h;
            }
            held[h] = n;
            held[h + 1] = from;
            return h + 2;
        }
    }

    /** Steps and ends. */
    private static final class Stepper {
        /** What a look finds, if no node: no redex is left, none is here, it is too large, or an end is wanted. */
        private static final int ENDED = 0;
        private static final int NO_USE = Forest.NO_USE;
        private static final int TOO_LARGE = 2;
        private static final int WANTS = 3;
        private static final int LOOKED = Forest.LOOKED;
        /** In one call; nobody waits for as many. */
        private static final long MOST_LOOKS = 1L << 40;
        private final Rows rows;
        private final Orders orders;
        final Forest forest = new Forest();
        /** For each variable of the pattern that was found last the place of what is put for it. */
        final int[] bound = new int[APART];
        private final Word comes = new Word(COMES);
        private final Word came = new Word(MOST_SIZE + 1);
        private final Word spare = new Word(MOST_SIZE + 1);
        private final Word part = new Word(MOST_SIZE + 1);
        private final boolean[] isRedex = new boolean[MOST_SIZE + 1];
        /** How many variables may have something put for them, and the nodes that are put. */
        private final int[] puts = new int[APART + 1];
        /** The use that was found last, and whether what comes by it is too large. */
        private Pair pair;
        private boolean isBack;
        private int[] side;
        private boolean isLarge;
        /** The redex that was found last. */
        private int spot;
        private long looks;
        /** The node whose end has to be found first. */
        private int wanted;
        /** How many steps led to the end that was found last, till the one that waits for it asks for it. */
        private int stepsOfLast;
        /** The part of an open node that was looked at last, and how long the way to it is. */
        private int at;
        private int depth;

        Stepper(Rows rows, Orders orders) {
            this.rows = rows;
            this.orders = orders;
        }

        /** To be called ahead of all that is full, once for each call of the face. */
        void refresh() {
            looks = 0;
            if (rows.guardedCount > 0) {
                forest.clear();
            }
        }

        /** Whether the pattern matches the part of w at p. */
        boolean takes(int[] pattern, int n, Word w, int p) {
            if (p < 0 || p >= w.size || p >= w.at.length || n < 1 || n > pattern.length) {
                return false;
            }
            if (pattern[0] >= 0 && pattern[0] != w.at[p]) {
                return false;
            }
            Arrays.fill(bound, NONE);
            int[] t = w.at;
            int q = p;
            for (int k = 0; k < n; k++) {
                int v = -1 - pattern[k];
                if (q >= w.size || q >= t.length || v >= bound.length) {
                    return false;
                }
                if (v < 0) {
                    if (t[q] != pattern[k]) {
                        return false;
                    }
                    q++;
                } else {
                    int end = Word.behind(t, q);
                    if (bound[v] < 0) {
                        bound[v] = q;
                    } else if (!Word.isAlike(t, q, t, bound[v], end - q)) {
                        return false;
                    }
                    q = end;
                }
            }
            return true;
        }

        /** Adds a side to out, with parts of w for its variables; not if one has none, or out gets too large. */
        private boolean makes(int[] side, Word w, Word out, int most) {
            for (int k = 0; k < side.length; k++) {
                int v = -1 - side[k];
                if (v < 0) {
                    if (!out.adds(side, k, k + 1, most)) {
                        return false;
                    }
                } else {
                    int p = v < bound.length ? bound[v] : NONE;
                    if (p < 0 || !out.adds(w.at, p, Word.behind(w.at, p), most)) {
                        return false;
                    }
                }
            }
            return true;
        }

        /** Looks for the first plain use at p. */
        boolean isPlain(Word w, int p) {
            for (int k = 0; k < rows.ruleCount && k < rows.rules.length; k++) {
                Pair rule = rows.rules[k];
                if (rule != null && takes(rule.left, rule.left.length, w, p)) {
                    pair = rule;
                    isBack = false;
                    side = rule.right;
                    return true;
                }
            }
            for (int k = 0; k < 2 * rows.unturnedCount && k < 2 * rows.unturned.length; k++) {
                Pair two = rows.unturned[k / 2];
                if (two == null) {
                    continue;
                }
                int[] goes = k % 2 == 0 ? two.left : two.right;
                int[] come = k % 2 == 0 ? two.right : two.left;
                comes.size = 0;
                if (takes(goes, goes.length, w, p) && makes(come, w, comes, COMES)
                        && orders.isGreater(orders.which, w.at, p, Word.behind(w.at, p), comes.at, comes.size)) {
                    pair = two;
                    isBack = k % 2 == 1;
                    side = come;
                    return true;
                }
            }
            return false;
        }

        /** Makes what comes by the use that was found in w. */
        private void bring(Word w) {
            came.size = 0;
            isLarge = side == null || !makes(side, w, came, MOST_SIZE);
        }

        /** Tells how many redexes (full) are among places of w; or looks up to the first one and makes what comes. */
        int scan(Word w, int from, int to, boolean isFirst) {
            int count = 0;
            for (int p = from; p >= 0 && p < to && p < w.size && p < isRedex.length; p++) {
                boolean isThere;
                if (rows.guardedCount == 0) {
                    isThere = isPlain(w, p);
                    if (isThere) {
                        bring(w);
                    }
                } else {
                    int found = comesFor(w, p);
                    if (found == BROKEN) {
                        return BROKEN;
                    }
                    isThere = found != NO_USE;
                    isLarge = found == TOO_LARGE;
                    if (found >= Forest.FIRST) {
                        forest.write(found, came);
                    }
                }
                isRedex[p] = isThere;
                if (isThere) {
                    spot = p;
                    count++;
                }
                if (isThere && isFirst) {
                    return 1;
                }
            }
            return count;
        }

        /** Makes the step by which something came for the part at p. */
        boolean isMade(Word w, int p) {
            spare.size = 0;
            if (isLarge || !spare.adds(w.at, 0, p, MOST_SIZE) || !spare.adds(came.at, 0, came.size, MOST_SIZE)
                    || !spare.adds(w.at, Word.behind(w.at, p), w.size, MOST_SIZE)) {
                return false;
            }
            w.set(spare.at, spare.size);
            return true;
        }

        /**
         * What comes for the part at p by its first use. Each node that is open waits for the one that was opened
         * behind it, and notes in place of its end the one that waits for it: the one whose condition needs it, or, if
         * it came about by steps to an end (it notes how many), the one from which these steps led to it.
         * As conditions lie within conditions as deep as they like, that row takes the place of calls in calls.
         */
        private int comesFor(Word w, int p) {
            int now = forest.planted(w.at, p, Word.behind(w.at, p), NOTHING, 0);
            if (forest.stageOf(now) == LOOKED) {
                return forest.comesOf(now);
            }
            forest.setEnd(now, true, 0, 0);
            boolean isFresh = true;
            stepsOfLast = NONE;
            while (looks < MOST_LOOKS && now >= Forest.FIRST) {
                looks++;
                if (forest.isNearlyFull() && !forest.grows()) {
                    now = forest.makeRoom(now);
                    if (forest.isCrowded()) {
                        now = forest.isShelved(now) ? forest.makeRoom(now) : 0;
                    }
                    isFresh = true;
                }
                int over = forest.endOf(now);
                int looked = over == 0 ? now : inside(now, isFresh);
                int found = looked == 0 ? ENDED : lookAt(looked);
                if (found == BROKEN) {
                    return BROKEN;
                }
                if (over == 0 && found != WANTS) {
                    forest.setEnd(now, false, 0, 0);
                    return now < Forest.FIRST ? BROKEN : found;
                }
                isFresh = found != NO_USE;
                if (isFresh) {
                    now = found == WANTS ? opened(wanted, now, 0) : goneOn(now, found);
                    now = now == Forest.SHELF ? forest.unshelved() : now;
                }
            }
            return BROKEN;
        }

        /** Opens a node for which another one waits; 0 if that may not be. */
        private int opened(int n, int over, int steps) {
            if (forest.isOpen(n) || steps > MOST_STEPS) {
                return 0;
            }
            forest.setEnd(n, true, over, steps);
            return n;
        }

        /** An open node makes the step at the redex that was found, or is its own end. Tells which one is next. */
        private int goneOn(int now, int found) {
            if (found == ENDED) {
                return closed(now, now, 0);
            }
            int next = found == TOO_LARGE ? 0 : forest.rebuilt(depth, found);
            if (next < Forest.FIRST || forest.sizeOf(next) > MOST_SIZE) {
                return 0;
            }
            int end = knownEnd(next);
            if (end < Forest.FIRST) {
                return opened(next, now, forest.stepsOf(now) + 1);
            }
            return closed(now, end, forest.stepsOf(next) + 1);
        }

        /**
         * Notes the end of an open node and of those from which steps led to it, as far as they are nodes. Tells which
         * one waits for the first of them; 0 if they are too many steps.
         */
        private int closed(int now, int end, int steps) {
            int n = now;
            int count = steps;
            for (int k = 0; k <= MOST_STEPS && count <= MOST_STEPS; k++) {
                int over = forest.endOf(n);
                int ahead = forest.stepsOf(n);
                forest.setEnd(n, false, end, count);
                if (ahead == 0 || over == Forest.SHELF) {
                    forest.last = end;
                    stepsOfLast = count + ahead;
                    return stepsOfLast > MOST_STEPS ? 0 : over;
                }
                count += ahead - forest.stepsOf(over);
                n = over;
            }
            return 0;
        }

        private int knownEnd(int n) {
            return forest.isOpen(n) ? 0 : forest.endOf(n);
        }

        /** The next part of an open node that may be a redex, behind the one that was looked at; 0 if there is none. */
        private int inside(int n, boolean isFresh) {
            boolean isLooked = !isFresh;
            if (isFresh) {
                depth = 0;
                at = n;
            }
            for (int k = 0; k <= 2 * MOST_SIZE; k++) {
                boolean isDone = knownEnd(at) == at;
                if (!isDone && !isLooked) {
                    return at;
                }
                if (!isDone && forest.arguments(at) > 0 && depth < forest.way.length) {
                    forest.way[depth] = at;
                    forest.isSecond[depth] = false;
                    depth++;
                    at = forest.first(at);
                } else {
                    depth = passed(at, depth);
                    if (depth == 0) {
                        return 0;
                    }
                    at = forest.second(forest.way[depth - 1]);
                }
                isLooked = false;
            }
            return 0;
        }

        /** What was passed on the way has no redex, so it is its own end; tells how deep the next argument lies. */
        private int passed(int now, int depth) {
            int n = now;
            int d = Math.min(depth, forest.way.length);
            while (d > 0) {
                forest.setEnd(n, false, n, 0);
                n = forest.way[d - 1];
                if (!forest.isSecond[d - 1] && forest.arguments(n) > 1) {
                    forest.isSecond[d - 1] = true;
                    return d;
                }
                d--;
            }
            return 0;
        }

        /**
         * What comes for a node by its first use: NO_USE, TOO_LARGE, a node; or WANTS, or BROKEN. Stage 0: nothing was
         * looked at; 1 + 2k: no use is ahead of the conditional rule k; 2 + 2k: the end of its one comes; LOOKED.
         */
        private int lookAt(int n) {
            int stage = forest.stageOf(n);
            if (stage == LOOKED) {
                return forest.comesOf(n);
            }
            boolean isThere = false;
            if (stage == 0 && rows.unturnedCount == 0) {
                isThere = isByRules(n);
            } else if (stage == 0) {
                forest.write(n, part);
                isThere = isPlain(part, 0) && pair != null
                    && forest.takes(isBack ? pair.right : pair.left, n, puts);
            }
            int all = 2 * Math.min(rows.guardedCount, rows.guarded.length);
            for (int k = Math.max(0, stage - 1); k < all && !isThere; k++) {
                Pair rule = rows.guarded[k / 2];
                if (rule == null || !forest.takes(rule.left, n, puts)) {
                    k |= 1;
                    continue;
                }
                boolean isOne = k % 2 == 0;
                int end = endMade(isOne ? rule.one : rule.other);
                if (end < Forest.FIRST) {
                    forest.setStage(n, k + 1, isOne ? 0 : forest.comesOf(n));
                    return end;
                }
                if (isOne) {
                    forest.setStage(n, k + 2, end);
                } else {
                    side = rule.right;
                    isThere = end == forest.comesOf(n);
                }
            }
            int comes = NO_USE;
            if (isThere && side != null) {
                comes = forest.planted(side, 0, side.length, puts, 0);
                comes = forest.sizeOf(comes) > MOST_SIZE ? TOO_LARGE : comes;
            }
            forest.setStage(n, LOOKED, comes);
            return comes == 0 ? BROKEN : comes;
        }

        /** Looks for the first use of a rule at a node, with what is put for the variables of its left side. */
        private boolean isByRules(int n) {
            for (int k = 0; k < rows.ruleCount && k < rows.rules.length; k++) {
                Pair rule = rows.rules[k];
                if (rule != null && forest.takes(rule.left, n, puts)) {
                    side = rule.right;
                    return true;
                }
            }
            return false;
        }

        /** The end of one or other of a condition, as it is made of what is put; WANTS, if that has to be found. */
        private int endMade(int[] made) {
            int n = forest.planted(made, 0, made.length, puts, 0);
            int end = n < Forest.FIRST || forest.sizeOf(n) > MOST_SIZE ? BROKEN : knownEnd(n);
            if (end == 0 && stepsOfLast >= 0) {
                // It was found, but the node from which the steps led to it is forgotten.
                end = forest.last;
                forest.setEnd(n, false, end, stepsOfLast);
            }
            stepsOfLast = NONE;
            if (end == 0) {
                wanted = n;
                return WANTS;
            }
            return end;
        }

        /** The redex of the next step, behind a scan of all places. */
        private int chosen(Word w, int strategy) {
            int best = NONE;
            int over = 0;
            for (int p = 0; p < w.size && p < isRedex.length; p++) {
                if (!isRedex[p]) {
                    continue;
                }
                if (strategy == 3) {
                    best = p;
                } else if (strategy == 2) {
                    if (p >= over) {
                        best = p;
                        over = Word.behind(w.at, p);
                    }
                } else if (best < 0 || p < Word.behind(w.at, best)) {
                    // Only what lies within takes the place of the smaller one.
                    best = p;
                } else {
                    break;
                }
            }
            return best;
        }

        /** Takes w to its full end; tells by how many steps. Or makes one step; tells where, NONE if there is none. */
        int goes(Word w, int strategy, boolean isOnce) {
            for (int count = 0; count <= MOST_STEPS; count++) {
                int all = scan(w, 0, w.size, strategy == 0);
                if (all == 0) {
                    return isOnce ? NONE : count;
                }
                if (all > 0 && strategy != 0) {
                    int p = chosen(w, strategy);
                    all = scan(w, p, p + 1, true);
                }
                if (all < 1 || count == MOST_STEPS || !isMade(w, spot)) {
                    return BROKEN;
                }
                if (isOnce) {
                    return spot;
                }
            }
            return BROKEN;
        }

        /** Takes w to its plain end; tells by how many steps. Its uses are noted in trace, if there is one. */
        int plainEnd(Word w, Chain trace) {
            if (trace != null) {
                trace.clear();
            }
            int count = 0;
            int p = 0;
            while (p < w.size) {
                if (!isPlain(w, p)) {
                    p++;
                    continue;
                }
                if (trace != null && pair != null) {
                    trace.addStep(pair, isBack, w, p, bound);
                }
                bring(w);
                if (count >= MOST_STEPS || !isMade(w, p)) {
                    return BROKEN;
                }
                count++;
                p = 0;
            }
            return count;
        }
    }

    /** Common instances, and the peaks of overlaps. */
    private static final class Meeting {
        private final int[] t = new int[4 * MOST_SIZE + 8];
        private int size;
        private final int[] bound = new int[NAMES];
        private final int[] work = new int[4096];
        private final int[] walk = new int[4096];
        private int fuel;
        final Word peak = new Word(MOST_SIZE + 1);
        final Word left = new Word(MOST_SIZE + 1);
        final Word right = new Word(MOST_SIZE + 1);

        private int load(int[] term, int n, int shift) {
            int from = size;
            for (int k = 0; k < n && k < term.length && size < t.length; k++) {
                t[size] = term[k] < 0 ? term[k] - shift : term[k];
                size++;
            }
            return from;
        }

        /** The common instance of two words comes into peak, not named. */
        int meets(Word a, Word b, boolean isApart) {
            size = 0;
            int p = load(a.at, a.size, 0);
            int q = load(b.at, b.size, isApart ? APART : 0);
            int found = worked(p, q);
            peak.size = 0;
            if (found == 1 && !isAdded(p, q, peak)) {
                return BROKEN;
            }
            return found;
        }

        private int worked(int p, int q) {
            Arrays.fill(bound, NONE);
            fuel = FUEL;
            work[0] = p;
            work[1] = q;
            int n = 2;
            while (n >= 2 && fuel > 0) {
                fuel--;
                int a = resolved(work[n - 2]);
                int b = resolved(work[n - 1]);
                n -= 2;
                if (a < 0 || b < 0 || n + 4 > work.length) {
                    return BROKEN;
                }
                if (t[a] < 0 || t[b] < 0) {
                    int put = t[a] == t[b] ? 1 : t[a] < 0 ? bind(-1 - t[a], b) : bind(-1 - t[b], a);
                    if (put != 1) {
                        return put;
                    }
                } else if (t[a] != t[b]) {
                    return CLASH;
                } else {
                    n = pushArguments(a, b, n);
                }
            }
            return n == 0 ? 1 : BROKEN;
        }

        /** The first pair of arguments comes on top. */
        private int pushArguments(int a, int b, int n) {
            int count = t[a] % 3;
            if (count == 2) {
                work[n] = Word.behind(t, a + 1);
                work[n + 1] = Word.behind(t, b + 1);
            }
            int k = count == 2 ? n + 2 : n;
            if (count > 0) {
                work[k] = a + 1;
                work[k + 1] = b + 1;
                k += 2;
            }
            return k;
        }

        /** Behind variables for which something was put; NONE if there is no such place. */
        private int resolved(int p) {
            int q = p;
            for (int k = 0; k <= NAMES; k++) {
                if (q < 0 || q >= size || q >= t.length) {
                    return NONE;
                }
                int v = -1 - t[q];
                if (v < 0 || v >= bound.length || bound[v] < 0) {
                    return q;
                }
                q = bound[v];
            }
            return NONE;
        }

        private int bind(int v, int p) {
            if (v < 0 || v >= bound.length) {
                return BROKEN;
            }
            int n = 1;
            walk[0] = p;
            while (n > 0 && fuel > 0) {
                fuel--;
                n--;
                int q = resolved(walk[n]);
                if (q < 0 || n + 2 > walk.length) {
                    return BROKEN;
                }
                if (t[q] == -1 - v) {
                    return RING;
                }
                int count = t[q] < 0 ? 0 : t[q] % 3;
                if (count == 2) {
                    walk[n] = Word.behind(t, q + 1);
                    n++;
                }
                if (count > 0) {
                    walk[n] = q + 1;
                    n++;
                }
            }
            if (n > 0) {
                return BROKEN;
            }
            bound[v] = p;
            return 1;
        }

        /** Adds what stands from one place up to another, with all that was put for variables. */
        private boolean isAdded(int from, int to, Word out) {
            for (int p = from; p < to && p >= 0 && p < t.length; p++) {
                if (t[p] >= 0) {
                    if (!out.adds(t, p, p + 1, MOST_SIZE)) {
                        return false;
                    }
                } else if (!isAddedWhole(p, out)) {
                    return false;
                }
            }
            return true;
        }

        private boolean isAddedWhole(int p, Word out) {
            int n = 1;
            walk[0] = p;
            for (int k = 0; k <= MOST_SIZE && n > 0 && n + 1 < walk.length; k++) {
                n--;
                int q = resolved(walk[n]);
                if (q < 0 || !out.adds(t, q, q + 1, MOST_SIZE)) {
                    return false;
                }
                int count = t[q] < 0 ? 0 : t[q] % 3;
                if (count == 2) {
                    walk[n] = Word.behind(t, q + 1);
                    n++;
                }
                if (count > 0) {
                    walk[n] = q + 1;
                    n++;
                }
            }
            return n == 0;
        }

        /** The overlap of the rule a into the rule b at p: 1 if there is one; peak, left and right are not named. */
        int crosses(Pair a, Pair b, int p) {
            if (a == null || b == null || p < 0 || p >= b.left.length) {
                return 0;
            }
            if (b.left[p] < 0 || a.left.length < 1 || a.left[0] != b.left[p]) {
                return 0;
            }
            size = 0;
            int over = load(a.left, a.left.length, APART);
            int under = load(b.left, b.left.length, 0);
            int comes = load(a.right, a.right.length, APART);
            int goes = load(b.right, b.right.length, 0);
            int found = worked(over, under + p);
            if (found != 1) {
                return found == BROKEN ? BROKEN : 0;
            }
            int behind = Word.behind(b.left, p);
            peak.size = 0;
            left.size = 0;
            right.size = 0;
            return isAdded(under, comes, peak)
                    && isAdded(under, under + p, left) && isAdded(comes, goes, left)
                    && isAdded(under + behind, comes, left)
                    && isAdded(goes, size, right) ? 1 : BROKEN;
        }

        /** Writes what is put for the variables of a rule of the overlap into a chain. */
        void putsInto(Chain chain, Pair rule, int shift, Word spare) {
            for (int v = 0; v < rule.variables; v++) {
                spare.size = 0;
                // The place behind all that was loaded holds the variable by itself.
                if (size < t.length) {
                    t[size] = -1 - v - shift;
                    size++;
                    isAddedWhole(size - 1, spare);
                    size--;
                }
                chain.puts(spare.at, 0, spare.size);
            }
        }
    }

    /** Steps of completion. */
    private static final class Completion {
        private final Rows rows;
        private final Orders orders;
        private final Stepper stepper;
        private final Meeting meeting;
        final Chain first = new Chain(MOST_STEPS + 1, 8000);
        final Chain second = new Chain(MOST_STEPS + 1, 8000);
        final Chain draft = new Chain(MOST_USES + 1, 45000);
        private final Chain crossed = new Chain(2, 500);
        /** The overlap of the row that was kept. */
        final Word peak = new Word(MOST_SIZE + 1);
        final Word peakLeft = new Word(MOST_SIZE + 1);
        final Word peakRight = new Word(MOST_SIZE + 1);
        private final Word left = new Word(MOST_SIZE + 1);
        private final Word right = new Word(MOST_SIZE + 1);
        private final Word spare = new Word(MOST_SIZE + 1);
        private final int[] names = new int[NAMES];
        private final int[] crossNames = new int[NAMES];

        Completion(Rows rows, Orders orders, Stepper stepper, Meeting meeting) {
            this.rows = rows;
            this.orders = orders;
            this.stepper = stepper;
            this.meeting = meeting;
        }

        /** A step of completion: what it told, NONE if nothing waits, BROKEN if it is refused. */
        int advance() {
            if (rows.waitCount == 0) {
                return NONE;
            }
            if (rows.isStuck) {
                return BROKEN;
            }
            rows.keep();
            int told = BROKEN;
            Pair pair = rows.takeNext();
            if (pair != null && areEnds(pair)) {
                told = direction();
                if (told != 0 && !(told == 3 ? isUnturned(turned(pair, false)) : isRule(turned(pair, told == 2)))) {
                    told = BROKEN;
                }
            }
            if (told == BROKEN) {
                rows.bringBack();
                rows.isStuck = true;
            } else {
                rows.made++;
                rows.dropped += told == 0 ? 1 : 0;
            }
            return told;
        }

        /** Makes the ends of both sides; tells whether the bounds are kept. */
        private boolean areEnds(Pair pair) {
            left.set(pair.left, pair.left.length);
            right.set(pair.right, pair.right.length);
            return stepper.plainEnd(left, first) >= 0 && stepper.plainEnd(right, second) >= 0;
        }

        private int direction() {
            if (left.isLike(right)) {
                return 0;
            }
            if (orders.isOver(orders.which, left, right)) {
                return 1;
            }
            return orders.isOver(orders.which, right, left) ? 2 : 3;
        }

        private boolean isUnturned(Pair pair) {
            int n = rows.unturnedCount;
            if (n < 0 || n >= rows.unturned.length) {
                return false;
            }
            rows.unturned[n] = pair;
            rows.unturnedCount++;
            return true;
        }

        /** The pair of both ends, named, with its chain. */
        private Pair turned(Pair pair, boolean isExchanged) {
            Pair made = rows.paired(isExchanged ? right : left, isExchanged ? left : right, names);
            made.uses = Math.min(MANY_USES + 1, first.broughtBack() + pair.uses + second.broughtBack());
            if (made.uses <= MOST_USES) {
                Chain chain = pair.over == null ? chainOf(pair) : crossing(pair, pair.over, pair.under);
                draft.clear();
                draft.addTurned(isExchanged ? second : first);
                if (chain != null && isExchanged) {
                    draft.addTurned(chain);
                } else if (chain != null) {
                    draft.addAll(chain);
                }
                draft.addAll(isExchanged ? first : second);
                draft.rename(names);
                made.takes(draft);
            }
            return made;
        }

        /** An equation that waits has no chain of its own: it is its own use. */
        private Chain chainOf(Pair pair) {
            if (pair.number < 0) {
                return pair.chain;
            }
            crossed.clear();
            crossed.opens(pair, false, pair.left, 0);
            for (int v = 0; v < pair.variables; v++) {
                crossed.cell(1);
                crossed.cell(-1 - v);
            }
            crossed.closes();
            return crossed;
        }

        /** The chain of an overlap: the overlap is made once more. */
        private Chain crossing(Pair pair, Pair over, Pair under) {
            crossed.clear();
            if (under == null || meeting.crosses(over, under, pair.place) != 1) {
                return null;
            }
            crossed.opens(over, true, under.left, pair.place);
            meeting.putsInto(crossed, over, APART, spare);
            crossed.closes();
            crossed.opens(under, false, under.left, 0);
            meeting.putsInto(crossed, under, 0, spare);
            crossed.closes();
            Arrays.fill(crossNames, NONE);
            int known = Word.name(crossNames, 0, meeting.left.at, meeting.left.size);
            Word.name(crossNames, known, meeting.right.at, meeting.right.size);
            crossed.rename(crossNames);
            return crossed;
        }

        private boolean isRule(Pair rule) {
            if (!isRoomMade(rule)) {
                return false;
            }
            int n = rows.ruleCount;
            if (n < 0 || n >= rows.rules.length) {
                return false;
            }
            rows.rules[n] = rule;
            rows.ruleCount++;
            for (int k = 0; k < n; k++) {
                if (!isShortened(k)) {
                    return false;
                }
            }
            return isOverlapped(n);
        }

        /** Old rules whose left sides the new one matches have to wait. */
        private boolean isRoomMade(Pair rule) {
            int k = 0;
            while (k < rows.ruleCount && k < rows.rules.length) {
                Pair old = rows.rules[k];
                if (old != null && isWithin(rule, old)) {
                    if (!rows.waits(old)) {
                        return false;
                    }
                    rows.removeRule(k);
                } else {
                    k++;
                }
            }
            return true;
        }

        private boolean isWithin(Pair rule, Pair old) {
            spare.set(old.left, old.left.length);
            for (int p = 0; p < spare.size; p++) {
                if (stepper.takes(rule.left, rule.left.length, spare, p)) {
                    return true;
                }
            }
            return false;
        }

        /** The right side of an old rule becomes its end. */
        private boolean isShortened(int k) {
            Pair old = k >= 0 && k < rows.rules.length ? rows.rules[k] : null;
            if (old == null) {
                return true;
            }
            right.set(old.right, old.right.length);
            int count = stepper.plainEnd(right, second);
            if (count <= 0) {
                return count == 0;
            }
            left.set(old.left, old.left.length);
            Pair made = rows.paired(left, right, names);
            made.uses = Math.min(MANY_USES + 1, old.uses + second.broughtBack());
            if (made.uses <= MOST_USES && old.chain != null) {
                draft.clear();
                draft.addAll(old.chain);
                draft.addAll(second);
                made.takes(draft);
            }
            rows.rules[k] = made;
            return true;
        }

        /** The overlaps of the last rule wait. */
        private boolean isOverlapped(int last) {
            for (int i = 0; i <= last && i < rows.rules.length; i++) {
                for (int j = i < last ? last : 0; j <= last && j < rows.rules.length; j++) {
                    Pair under = rows.rules[j];
                    int n = under == null ? 0 : under.left.length;
                    for (int p = i < j ? 0 : 1; p < n; p++) {
                        int found = meeting.crosses(rows.rules[i], under, p);
                        if (found == BROKEN) {
                            return false;
                        }
                        if (found == 1 && !meeting.left.isLike(meeting.right)
                                && !rows.waits(opened(rows.rules[i], under, p))) {
                            return false;
                        }
                    }
                }
            }
            return true;
        }

        /** The pair of an overlap, named. */
        private Pair opened(Pair over, Pair under, int p) {
            Pair made = rows.paired(meeting.left, meeting.right, names);
            made.uses = Math.min(MANY_USES + 1, over.uses + under.uses);
            made.over = over;
            made.under = under;
            made.place = p;
            return made;
        }

        /** Makes the whole row of overlaps and keeps the one that is wanted; tells how many there are. */
        int peaks(int wanted) {
            int count = 0;
            for (int i = 0; i < rows.ruleCount && i < rows.rules.length; i++) {
                for (int j = 0; j < rows.ruleCount && j < rows.rules.length; j++) {
                    Pair under = rows.rules[j];
                    int n = under == null ? 0 : under.left.length;
                    for (int p = i < j ? 0 : 1; p < n; p++) {
                        int found = meeting.crosses(rows.rules[i], under, p);
                        if (found == BROKEN) {
                            return BROKEN;
                        }
                        if (found == 1 && count == wanted) {
                            keepPeak();
                        }
                        count += found;
                    }
                }
            }
            return count;
        }

        private void keepPeak() {
            peak.set(meeting.peak.at, meeting.peak.size);
            peakLeft.set(meeting.left.at, meeting.left.size);
            peakRight.set(meeting.right.at, meeting.right.size);
            Arrays.fill(names, NONE);
            Word.name(names, 0, peak.at, peak.size);
            Word.rename(peak.at, 0, peak.size, names);
            Word.rename(peakLeft.at, 0, peakLeft.size, names);
            Word.rename(peakRight.at, 0, peakRight.size, names);
        }

        /** The first overlap whose ends are not alike; no bound counts behind it but those of the row. */
        int firstMissing() {
            if (peaks(NONE) == BROKEN) {
                return BROKEN;
            }
            int count = 0;
            for (int i = 0; i < rows.ruleCount && i < rows.rules.length; i++) {
                for (int j = 0; j < rows.ruleCount && j < rows.rules.length; j++) {
                    Pair under = rows.rules[j];
                    int n = under == null ? 0 : under.left.length;
                    for (int p = i < j ? 0 : 1; p < n; p++) {
                        if (meeting.crosses(rows.rules[i], under, p) != 1) {
                            continue;
                        }
                        keepPeak();
                        if (stepper.plainEnd(peakLeft, null) < 0 || stepper.plainEnd(peakRight, null) < 0) {
                            return BROKEN;
                        }
                        if (!peakLeft.isLike(peakRight)) {
                            return count;
                        }
                        count++;
                    }
                }
            }
            return NONE;
        }
    }

    /**
     * Walks a chain, brought back, from a term on. A frame is a chain that is walked: from which end, what is put
     * for its variables (how many, then a node for each), and the part of the whole term that it changes; the frame
     * below it gets that part back behind the chain. A variable for which nothing is put stays what it is.
     */
    private static final class Proof {
        private static final int FRAMES = MOST_USES + 2;
        private static final long NINE_DIGITS = 1000000000;
        private final Forest forest;
        private final Chain[] chains = new Chain[FRAMES];
        private final int[] index = new int[FRAMES];
        private final int[] position = new int[FRAMES];
        private final boolean[] turned = new boolean[FRAMES];
        /** Where the use that was begun last stands in its chain. */
        private final int[] records = new int[FRAMES];
        private final int[] terms = new int[FRAMES];
        private final int[] puts = new int[FRAMES * APART];
        private int depth;
        /** How many arguments lead to the part that was asked for last. */
        private int length;
        private final int[] nines = new int[64];
        /** The use that was made last. */
        int number;
        boolean isBack;
        /** Whether its sides stood where they have to. */
        boolean isRight;
        private boolean isBroken;

        Proof(Forest forest) {
            this.forest = forest;
        }

        void start(int[] t, int n, Chain chain) {
            forest.clear();
            puts[0] = 0;
            isBroken = false;
            depth = 0;
            open(chain, false, forest.planted(t, 0, n, puts, 0));
        }

        /** Opens a chain; what is put for its variables is told. */
        private void open(Chain chain, boolean isTurned, int term) {
            if (chain == null || term < Forest.FIRST || depth < 0 || depth >= FRAMES) {
                isBroken = true;
                return;
            }
            chains[depth] = chain;
            index[depth] = 0;
            position[depth] = isTurned ? chain.length : 0;
            turned[depth] = isTurned;
            records[depth] = 0;
            terms[depth] = term;
            depth++;
        }

        /** Makes the next use of an equation; tells whether there was one. */
        boolean isMoved() {
            for (int k = 0; k < 4 * MOST_USES && depth > 0 && depth <= FRAMES && !isBroken; k++) {
                if (forest.isNearlyFull() && !forest.grows()) {
                    isBroken = true;
                    return false;
                }
                int f = depth - 1;
                Chain c = chains[f];
                if (c == null || index[f] >= c.uses) {
                    depth--;
                    if (f > 0) {
                        becomes(f - 1, terms[f]);
                    }
                    continue;
                }
                int next = turned[f] ? c.uses - 1 - index[f] : index[f];
                int record = turned[f] ? position[f] - c.at(position[f] - 1) : position[f];
                records[f] = record;
                position[f] = turned[f] ? record : record + c.at(record);
                index[f]++;
                Pair pair = next >= 0 && next < c.refs.length ? c.refs[next] : null;
                if (pair == null) {
                    isBroken = true;
                } else if (isMade(pair, c, record, f)) {
                    return true;
                }
            }
            return false;
        }

        /** Makes a use of an equation, or opens the chain of anything else. */
        private boolean isMade(Pair pair, Chain c, int record, int f) {
            boolean isTurned = (c.at(record + 1) == 1) != turned[f];
            int inner = depth * APART;
            fill(c, record, f * APART, inner);
            int part = partOf(f);
            if (pair.number < 0) {
                open(pair.chain, isTurned, part);
                return false;
            }
            number = pair.number;
            isBack = isTurned;
            int[] goes = isTurned ? pair.right : pair.left;
            int[] come = isTurned ? pair.left : pair.right;
            isRight = part >= Forest.FIRST && part == forest.planted(goes, 0, goes.length, puts, inner);
            becomes(f, forest.planted(come, 0, come.length, puts, inner));
            return !isBroken;
        }

        /** Tells what a use puts for variables, by what is put for those of the chain around it. */
        private void fill(Chain c, int record, int outer, int inner) {
            int q = record + 3 + c.at(record + 2);
            int n = c.at(q);
            q++;
            if (n < 0 || n >= APART || inner < 0 || inner + n >= puts.length) {
                isBroken = true;
                return;
            }
            puts[inner] = n;
            for (int v = 0; v < n; v++) {
                int size = c.at(q);
                puts[inner + 1 + v] = forest.planted(c.code, q + 1, q + 1 + size, puts, outer);
                q += 1 + size;
            }
        }

        /** The part at the place of the use that was begun last; the way to it stands in the forest then. */
        private int partOf(int f) {
            Chain c = chains[f];
            int now = terms[f];
            length = c == null ? 0 : Math.min(c.at(records[f] + 2), forest.way.length);
            for (int k = 0; k < length && c != null; k++) {
                int argument = c.at(records[f] + 3 + k);
                if (argument >= forest.arguments(now)) {
                    return 0;
                }
                forest.way[k] = now;
                forest.isSecond[k] = argument == 1;
                now = argument == 1 ? forest.second(now) : forest.first(now);
            }
            return now;
        }

        /** The part at the place of the use that was begun last becomes something else. */
        private void becomes(int f, int made) {
            int n = partOf(f) < Forest.FIRST ? 0 : forest.rebuilt(length, made);
            terms[f] = n;
            isBroken = isBroken || n < Forest.FIRST;
        }

        /** The whole term, as it is now. */
        int now() {
            int f = depth > 0 ? Math.min(depth, FRAMES) - 1 : 0;
            int made = terms[f];
            for (int k = f - 1; k >= 0; k--) {
                if (forest.isNearlyFull() && !forest.grows()) {
                    return 0;
                }
                made = partOf(k) < Forest.FIRST ? 0 : forest.rebuilt(length, made);
            }
            return made;
        }

        /** Writes the place of the last use, nine digits at a time: it may be beyond all whole numbers of Java. */
        void writePlace(StringBuilder out) {
            int n = 0;
            long over = 0;
            boolean isMore = true;
            while ((isMore || over > 0) && n < nines.length) {
                isMore = forest.areSizesTold(n == 0);
                over += ahead(n == 0);
                nines[n] = (int) (over % NINE_DIGITS);
                over /= NINE_DIGITS;
                n++;
            }
            int k = n - 1;
            while (k > 0 && nines[k] == 0) {
                k--;
            }
            out.append(nines[k]);
            for (k--; k >= 0; k--) {
                for (int unit = 100000000; unit > 0; unit /= 10) {
                    out.append((char) ('0' + nines[k] / unit % 10));
                }
            }
        }

        /** Nine digits of how much stands ahead of the place of the last use. */
        private long ahead(boolean isFirst) {
            long sum = 0;
            for (int f = 0; f < depth && f < FRAMES; f++) {
                if (partOf(f) < Forest.FIRST) {
                    continue;
                }
                for (int k = 0; k < length && k < forest.way.length; k++) {
                    sum += isFirst ? 1 : 0;
                    sum += forest.isSecond[k] ? forest.toldSize(forest.first(forest.way[k])) : 0;
                }
            }
            return sum;
        }

        /** Whether a chain leads from one side to the other one, each use as it has to be. */
        boolean isLeading(int[] left, int n, int[] right, int m, Chain chain) {
            start(left, n, chain);
            int count = 0;
            while (count <= MOST_USES && isMoved()) {
                if (!isRight) {
                    return false;
                }
                count++;
            }
            puts[0] = 0;
            return !isBroken && now() >= Forest.FIRST && now() == forest.planted(right, 0, m, puts, 0);
        }
    }

    /** Finite tables. */
    private static final class Tables {
        private final Rows rows;
        private final int[] arities;
        private final int[] from = new int[SYMBOLS + 1];
        final int[] entries = new int[16];
        private final int[] given = new int[8];
        private final int[] held = new int[MOST_SIZE + 1];
        private int count;

        Tables(Rows rows, int[] arities) {
            this.rows = rows;
            this.arities = arities;
        }

        /** Lays all tables of n values out; tells how many there are, BROKEN if too many. */
        int lay(int n, int symbols) {
            count = 0;
            for (int f = 0; f < symbols && f < arities.length; f++) {
                from[f] = count;
                count += arities[f] == 0 ? 1 : arities[f] == 1 ? n : n * n;
            }
            Arrays.fill(entries, 0);
            int all = 1;
            for (int k = 0; k < count; k++) {
                all *= n;
                if (all > MOST_TABLES) {
                    return BROKEN;
                }
            }
            return all;
        }

        /** The next tables of the row. */
        void advance(int n) {
            for (int k = Math.min(count, entries.length) - 1; k >= 0; k--) {
                entries[k]++;
                if (entries[k] < n) {
                    return;
                }
                entries[k] = 0;
            }
        }

        boolean isModel(int n) {
            for (int k = 0; k < rows.equationCount && k < rows.equations.length; k++) {
                Pair pair = rows.equations[k];
                if (pair != null && isUnlike(pair.left, pair.left.length, pair.right, pair.right.length, n)) {
                    return false;
                }
            }
            return true;
        }

        boolean isUnlike(int[] s, int sizeOfS, int[] t, int sizeOfT, int n) {
            int most = Math.max(Word.greatestVariable(s, sizeOfS), Word.greatestVariable(t, sizeOfT)) + 1;
            int all = 1;
            for (int v = 0; v < most && v < given.length; v++) {
                all *= n;
            }
            Arrays.fill(given, 0);
            for (int k = 0; k < all; k++) {
                if (valueOf(s, sizeOfS, n) != valueOf(t, sizeOfT, n)) {
                    return true;
                }
                for (int v = 0; v < given.length; v++) {
                    given[v]++;
                    if (given[v] < n) {
                        break;
                    }
                    given[v] = 0;
                }
            }
            return false;
        }

        /** From the last sign to the first one, so that all arguments are held as their symbol comes. */
        private int valueOf(int[] t, int size, int n) {
            int h = 0;
            for (int k = Math.min(size, t.length) - 1; k >= 0; k--) {
                int c = t[k];
                int value = 0;
                if (c < 0) {
                    value = -1 - c < given.length ? given[-1 - c] : 0;
                } else {
                    int entry = c / 3 < from.length ? from[c / 3] : 0;
                    if (c % 3 == 2 && h >= 2) {
                        entry += held[h - 1] * n + held[h - 2];
                        h -= 2;
                    } else if (c % 3 == 1 && h >= 1) {
                        entry += held[h - 1];
                        h--;
                    }
                    value = entry >= 0 && entry < entries.length ? entries[entry] : 0;
                }
                if (h < held.length) {
                    held[h] = value;
                    h++;
                }
            }
            return h > 0 ? held[0] : 0;
        }

        void write(StringBuilder out, int symbols) {
            for (int f = 0; f < symbols && f < from.length; f++) {
                if (f > 0) {
                    out.append(',');
                }
                int to = f + 1 < symbols ? from[f + 1] : count;
                for (int k = from[f]; k < to && k >= 0 && k < entries.length; k++) {
                    out.append(entries[k]);
                }
            }
        }
    }

    /** Ground terms without a redex, by their sizes. */
    private static final class Grounds {
        private final int[] arities;
        private final Stepper stepper;
        private final int[] terms = new int[(MOST_ENDS + 1) * 6];
        /** Where those of a size begin. */
        private final int[] from = new int[8];
        private int count;
        private final Word made = new Word(MOST_SIZE + 1);

        Grounds(int[] arities, Stepper stepper) {
            this.arities = arities;
            this.stepper = stepper;
        }

        /** How many there are of a size; BROKEN if there are too many up to that. */
        int made(int size, int symbols) {
            count = 0;
            for (int n = 1; n <= size && n + 1 < from.length; n++) {
                from[n] = count;
                for (int f = 0; f < symbols && f < arities.length; f++) {
                    if (arities[f] == 0 && n == 1 && !isAdded(f * 3, NONE, NONE, n)
                            || arities[f] == 1 && !isEachAdded(f * 3 + 1, n)
                            || arities[f] == 2 && !isEachPairAdded(f * 3 + 2, n)) {
                        return BROKEN;
                    }
                }
                from[n + 1] = count;
            }
            return size >= 1 && size + 1 < from.length ? from[size + 1] - from[size] : BROKEN;
        }

        private boolean isEachAdded(int symbol, int n) {
            for (int k = n < 2 ? count : from[n - 1]; k < from[n]; k++) {
                if (!isAdded(symbol, k, NONE, n)) {
                    return false;
                }
            }
            return true;
        }

        private boolean isEachPairAdded(int symbol, int n) {
            for (int m = 1; m < n - 1; m++) {
                for (int k = from[m]; k < from[m + 1]; k++) {
                    for (int i = from[n - 1 - m]; i < from[n - m]; i++) {
                        if (!isAdded(symbol, k, i, n)) {
                            return false;
                        }
                    }
                }
            }
            return true;
        }

        /** A term is added if it is no redex itself, as none lies within its arguments. */
        private boolean isAdded(int symbol, int a, int b, int n) {
            made.begin(symbol);
            if (a >= 0) {
                made.adds(terms, a * 6, Word.behind(terms, a * 6), MOST_SIZE);
            }
            if (b >= 0) {
                made.adds(terms, b * 6, Word.behind(terms, b * 6), MOST_SIZE);
            }
            if (stepper.isPlain(made, 0)) {
                return true;
            }
            if (count >= MOST_ENDS || made.size != n || n > 6) {
                return false;
            }
            System.arraycopy(made.at, 0, terms, count * 6, n);
            count++;
            return true;
        }
    }
}
