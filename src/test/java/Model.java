import java.util.ArrayList;
import java.util.Arrays;
import java.util.Collections;
import java.util.HashMap;
import java.util.LinkedHashMap;
import java.util.LinkedHashSet;
import java.util.List;
import java.util.Map;
import java.util.NoSuchElementException;
import java.util.Set;
import java.util.TreeMap;

/**
 * The hall once more, word for word as the document describes it, as plain and as slow as that is: terms are trees,
 * nothing is noted that can be found again. The class is compared with it.
 */
final class Model {
    /** A bound is not kept. */
    static final class Bound extends IllegalStateException {
        private static final long serialVersionUID = 1;
    }

    /** What would take this model too long: nothing can be said of the call. */
    static final class TooMuch extends RuntimeException {
        private static final long serialVersionUID = 1;
    }

    private static final int SIZE = 40;
    private static final int NONE = -1;

    /** A variable has the symbol NONE. */
    static final class Term {
        final int symbol;
        final int variable;
        final Term[] arguments;
        final int size;
        private String text;

        private Term(int symbol, int variable, Term... arguments) {
            this.symbol = symbol;
            this.variable = variable;
            this.arguments = arguments;
            int n = 1;
            for (Term t : arguments) {
                n += t.size;
                if (n > 3000000) {
                    throw new TooMuch();
                }
            }
            size = n;
        }

        static Term variable(int v) {
            return new Term(NONE, v);
        }

        static Term of(int symbol, Term... arguments) {
            return new Term(symbol, NONE, arguments);
        }

        boolean isVariable() {
            return symbol == NONE;
        }

        String text() {
            if (text == null) {
                StringBuilder out = new StringBuilder();
                write(out);
                text = out.toString();
            }
            return text;
        }

        private void write(StringBuilder out) {
            if (isVariable()) {
                out.append('x').append(variable);
                return;
            }
            out.append((char) ('a' + symbol));
            for (int k = 0; k < arguments.length; k++) {
                out.append(k == 0 ? '(' : ',');
                arguments[k].write(out);
            }
            if (arguments.length > 0) {
                out.append(')');
            }
        }

        boolean isAlike(Term t) {
            if (symbol != t.symbol || variable != t.variable || size != t.size) {
                return false;
            }
            for (int k = 0; k < arguments.length; k++) {
                if (!arguments[k].isAlike(t.arguments[k])) {
                    return false;
                }
            }
            return true;
        }

        boolean contains(int v) {
            if (isVariable()) {
                return variable == v;
            }
            for (Term t : arguments) {
                if (t.contains(v)) {
                    return true;
                }
            }
            return false;
        }

        /** The variables in the order in which they first come. */
        void variables(Set<Integer> all) {
            if (isVariable()) {
                all.add(variable);
            }
            for (Term t : arguments) {
                t.variables(all);
            }
        }

        int often(int v) {
            int n = isVariable() && variable == v ? 1 : 0;
            for (Term t : arguments) {
                n += t.often(v);
            }
            return n;
        }

        int depth() {
            int n = 0;
            for (Term t : arguments) {
                n = Math.max(n, t.depth());
            }
            return n + 1;
        }

        Term put(Map<Integer, Term> puts) {
            if (isVariable()) {
                Term t = puts.get(variable);
                return t == null ? this : t;
            }
            Term[] made = new Term[arguments.length];
            for (int k = 0; k < made.length; k++) {
                made[k] = arguments[k].put(puts);
            }
            return new Term(symbol, NONE, made);
        }

        Term part(int place) {
            if (place == 0) {
                return this;
            }
            int p = place - 1;
            for (Term t : arguments) {
                if (p < t.size) {
                    return t.part(p);
                }
                p -= t.size;
            }
            throw new IndexOutOfBoundsException();
        }

        Term with(int place, Term t) {
            if (place == 0) {
                return t;
            }
            Term[] made = arguments.clone();
            int p = place - 1;
            for (int k = 0; k < made.length; k++) {
                if (p < made[k].size) {
                    made[k] = made[k].with(p, t);
                    return new Term(symbol, NONE, made);
                }
                p -= made[k].size;
            }
            throw new IndexOutOfBoundsException();
        }

        /** Which arguments lead to a place. */
        List<Integer> way(int place) {
            List<Integer> way = new ArrayList<>();
            Term t = this;
            int p = place;
            while (p > 0) {
                p--;
                int k = 0;
                while (p >= t.arguments[k].size) {
                    p -= t.arguments[k].size;
                    k++;
                }
                way.add(k);
                t = t.arguments[k];
            }
            return way;
        }

        int place(List<Integer> way) {
            Term t = this;
            int p = 0;
            for (int k : way) {
                p++;
                for (int a = 0; a < k; a++) {
                    p += t.arguments[a].size;
                }
                t = t.arguments[k];
            }
            return p;
        }
    }

    /** A use of a pair at the place to which a way leads. */
    private static final class Use {
        final Pair of;
        final boolean isBack;
        final List<Integer> way;
        final Map<Integer, Term> puts;

        Use(Pair of, boolean isBack, List<Integer> way, Map<Integer, Term> puts) {
            this.of = of;
            this.isBack = isBack;
            this.way = way;
            this.puts = puts;
        }

        Use turned() {
            return new Use(of, !isBack, way, puts);
        }
    }

    /** An equation, a rule, an unturned one, a conditional one, or what waits. */
    private static final class Pair {
        final Term left;
        final Term right;
        Term one;
        Term other;
        int number = NONE;
        int age;
        List<Use> chain = new ArrayList<>();
        /** How many uses the chain has, brought back; up to a million and one. */
        long uses;

        Pair(Term left, Term right) {
            this.left = left;
            this.right = right;
        }

        void takes(List<Use> uses) {
            chain = uses;
            this.uses = countOf(uses);
        }
    }

    private static long countOf(List<Use> uses) {
        long sum = 0;
        for (Use use : uses) {
            sum += use.of.number == NONE ? use.of.uses : 1;
        }
        return Math.min(sum, 1000001);
    }

    private static List<Use> turned(List<Use> uses) {
        List<Use> all = new ArrayList<>();
        for (int k = uses.size() - 1; k >= 0; k--) {
            all.add(uses.get(k).turned());
        }
        return all;
    }

    /** All that a step of completion may change. */
    private static final class Rows {
        final List<Pair> rules = new ArrayList<>();
        final List<Pair> unturned = new ArrayList<>();
        final List<Pair> waiting = new ArrayList<>();
        int nextAge;

        Rows copy() {
            Rows rows = new Rows();
            rows.rules.addAll(rules);
            rows.unturned.addAll(unturned);
            rows.waiting.addAll(waiting);
            rows.nextAge = nextAge;
            return rows;
        }

        void waits(Pair pair) {
            if (waiting.size() >= 120) {
                throw new Bound();
            }
            pair.age = nextAge;
            nextAge++;
            waiting.add(pair);
        }

        List<Pair> inOrder() {
            List<Pair> all = new ArrayList<>(waiting);
            all.sort((a, b) -> {
                int sizes = Integer.compare(a.left.size + a.right.size, b.left.size + b.right.size);
                return sizes != 0 ? sizes : Integer.compare(a.age, b.age);
            });
            return all;
        }
    }

    private static final class Overlap {
        Pair over;
        Pair under;
        int place;
        Term peak;
        Term left;
        Term right;
        Map<Integer, Term> putsOver;
        Map<Integer, Term> putsUnder;
    }

    private final List<int[]> symbols = new ArrayList<>();
    private final List<Boolean> sums = new ArrayList<>();
    private final List<Term> stack = new ArrayList<>();
    private final List<Pair> equations = new ArrayList<>();
    private final List<Pair> guarded = new ArrayList<>();
    private Rows rows = new Rows();
    private int order;
    private int dropped;
    private int made;
    private int knocks;
    /** The full ends that were found in this call, with their steps; only to be quicker. */
    private final Map<String, Object[]> known = new HashMap<>();
    private final Map<String, Boolean> paths = new HashMap<>();
    private int looks;
    private int deep;

    private static void argument(boolean isSo) {
        if (!isSo) {
            throw new IllegalArgumentException();
        }
    }

    private static void state(boolean isSo) {
        if (!isSo) {
            throw new IllegalStateException();
        }
    }

    private static void bound(boolean isSo) {
        if (!isSo) {
            throw new Bound();
        }
    }

    private static void index(boolean isSo) {
        if (!isSo) {
            throw new IndexOutOfBoundsException();
        }
    }

    private static void element(boolean isSo) {
        if (!isSo) {
            throw new NoSuchElementException();
        }
    }

    private Term top(int i) {
        return stack.get(stack.size() - 1 - i);
    }

    private Term pop() {
        return stack.remove(stack.size() - 1);
    }

    // ---- symbols and terms

    public int symbol(int arity, int weight) {
        argument(arity >= 0 && arity <= 2 && weight >= 1 && weight <= 9);
        state(symbols.size() < 5);
        symbols.add(new int[] {arity, weight});
        sums.add(false);
        return symbols.size() - 1;
    }

    public boolean sum(int f, boolean isSum) {
        index(f >= 0 && f < symbols.size());
        argument(symbols.get(f)[0] == 2);
        return sums.set(f, isSum);
    }

    public int variable(int v) {
        argument(v >= 0 && v <= 5);
        state(stack.size() < 8);
        stack.add(Term.variable(v));
        return stack.size();
    }

    public int apply(int f) {
        index(f >= 0 && f < symbols.size());
        int arity = symbols.get(f)[0];
        state(stack.size() >= arity && stack.size() - arity + 1 <= 8);
        Term[] arguments = new Term[arity];
        for (int k = 0; k < arity; k++) {
            arguments[k] = top(arity - 1 - k);
        }
        Term t = Term.of(f, arguments);
        state(t.size <= SIZE);
        for (int k = 0; k < arity; k++) {
            pop();
        }
        stack.add(t);
        return t.size;
    }

    public int drop() {
        state(!stack.isEmpty());
        pop();
        return stack.size();
    }

    public int again(int i) {
        index(i >= 0 && i < stack.size());
        state(stack.size() < 8);
        stack.add(top(i));
        return stack.size();
    }

    public int exchange() {
        state(stack.size() >= 2);
        Term top = pop();
        Term second = pop();
        stack.add(top);
        stack.add(second);
        return second.size;
    }

    public int part(int place) {
        index(!stack.isEmpty() && place >= 0 && place < top(0).size);
        stack.add(pop().part(place));
        return top(0).size;
    }

    public int put(int place) {
        index(stack.size() >= 2 && place >= 0 && place < top(1).size);
        Term t = top(1).with(place, top(0));
        state(t.size <= SIZE);
        pop();
        pop();
        stack.add(t);
        return t.size;
    }

    public String text(int i) {
        index(i >= 0 && i < stack.size());
        return top(i).text();
    }

    public int ofTerm(int i, int what) {
        index(i >= 0 && i < stack.size());
        argument(what >= 0 && what <= 4);
        Term t = top(i);
        Set<Integer> all = new LinkedHashSet<>();
        t.variables(all);
        switch (what) {
            case 0:
                return t.size;
            case 1:
                return t.depth();
            case 2:
                return all.size();
            case 3:
                return weight(t);
            default:
                return all.isEmpty() ? NONE : Collections.max(all);
        }
    }

    public int ofPlace(int place, int what) {
        index(!stack.isEmpty() && place >= 0 && place < top(0).size);
        argument(what >= 0 && what <= 4);
        Term part = top(0).part(place);
        switch (what) {
            case 0:
                return part.symbol;
            case 1:
                return part.variable;
            case 2:
                return part.size;
            case 3:
                for (int p = place - 1; p >= 0; p--) {
                    if (place < p + top(0).part(p).size) {
                        return p;
                    }
                }
                return NONE;
            default:
                begin();
                return firstUse(part, true) == null ? 0 : 1;
        }
    }

    // ---- matches, common instances, orders

    private static boolean isMatch(Term pattern, Term t, Map<Integer, Term> puts) {
        if (pattern.isVariable()) {
            Term before = puts.putIfAbsent(pattern.variable, t);
            return before == null || before.isAlike(t);
        }
        if (pattern.symbol != t.symbol) {
            return false;
        }
        for (int k = 0; k < pattern.arguments.length; k++) {
            if (!isMatch(pattern.arguments[k], t.arguments[k], puts)) {
                return false;
            }
        }
        return true;
    }

    private static Map<Integer, Term> matched(Term pattern, Term t) {
        Map<Integer, Term> puts = new TreeMap<>();
        return isMatch(pattern, t, puts) ? puts : null;
    }

    public String match() {
        state(stack.size() >= 2);
        Map<Integer, Term> puts = matched(top(1), top(0));
        if (puts == null) {
            return "-";
        }
        StringBuilder out = new StringBuilder();
        for (Map.Entry<Integer, Term> e : puts.entrySet()) {
            out.append(out.length() == 0 ? "" : ";").append('x').append(e.getKey()).append('=')
                .append(e.getValue().text());
        }
        return out.toString();
    }

    private static Term shifted(Term t, int by) {
        Map<Integer, Term> puts = new HashMap<>();
        Set<Integer> all = new LinkedHashSet<>();
        t.variables(all);
        for (int v : all) {
            puts.put(v, Term.variable(v + by));
        }
        return t.put(puts);
    }

    /** What is put for variables so that both become the same: "%", "@", or a map. */
    private static Object common(Term a, Term b) {
        Map<Integer, Term> puts = new HashMap<>();
        List<Term[]> row = new ArrayList<>();
        row.add(new Term[] {a, b});
        while (!row.isEmpty()) {
            Term[] pair = row.remove(0);
            Term s = pair[0].put(puts);
            Term t = pair[1].put(puts);
            if (s.isAlike(t)) {
                continue;
            }
            if (s.isVariable() || t.isVariable()) {
                int v = s.isVariable() ? s.variable : t.variable;
                Term comes = s.isVariable() ? t : s;
                if (comes.contains(v)) {
                    return "@";
                }
                Map<Integer, Term> one = new HashMap<>();
                one.put(v, comes);
                puts.replaceAll((w, x) -> x.put(one));
                puts.put(v, comes);
            } else if (s.symbol != t.symbol) {
                return "%";
            } else {
                for (int k = s.arguments.length - 1; k >= 0; k--) {
                    row.add(0, new Term[] {s.arguments[k], t.arguments[k]});
                }
            }
        }
        return puts;
    }

    private static Map<Integer, Term> names(Term... terms) {
        Set<Integer> all = new LinkedHashSet<>();
        for (Term t : terms) {
            t.variables(all);
        }
        Map<Integer, Term> names = new HashMap<>();
        for (int v : all) {
            names.put(v, Term.variable(names.size()));
        }
        return names;
    }

    public String unify(boolean isApart) {
        state(stack.size() >= 2);
        Term t = isApart ? shifted(top(0), 1000) : top(0);
        Object puts = common(top(1), t);
        if (puts instanceof String) {
            return (String) puts;
        }
        Term made = top(1).put(map(puts));
        bound(made.size <= SIZE);
        return made.put(names(made)).text();
    }

    @SuppressWarnings("unchecked")
    private static Map<Integer, Term> map(Object puts) {
        return (Map<Integer, Term>) puts;
    }

    private int weight(Term t) {
        int sum = t.isVariable() ? 1 : symbols.get(t.symbol)[1];
        for (Term a : t.arguments) {
            sum += weight(a);
        }
        return sum;
    }

    private boolean isGreater(int which, Term s, Term t) {
        paths.clear();
        return which == 0 ? isByPaths(s, t) : isByWeights(s, t);
    }

    /** What was found of two terms is noted, as they come again and again. */
    private boolean isByPaths(Term s, Term t) {
        if (s.size * t.size < 20) {
            return isByPathsAnew(s, t);
        }
        String both = s.text() + ">" + t.text();
        Boolean found = paths.get(both);
        if (found == null) {
            found = isByPathsAnew(s, t);
            paths.put(both, found);
        }
        return found;
    }

    private boolean isByPathsAnew(Term s, Term t) {
        if (t.isVariable()) {
            return s.contains(t.variable) && !s.isAlike(t);
        }
        if (s.isVariable()) {
            return false;
        }
        for (Term a : s.arguments) {
            if (a.isAlike(t) || isByPaths(a, t)) {
                return true;
            }
        }
        if (s.symbol < t.symbol) {
            return false;
        }
        for (Term a : t.arguments) {
            if (!isByPaths(s, a)) {
                return false;
            }
        }
        if (s.symbol > t.symbol) {
            return true;
        }
        for (int k = 0; k < s.arguments.length; k++) {
            if (!s.arguments[k].isAlike(t.arguments[k])) {
                return isByPaths(s.arguments[k], t.arguments[k]);
            }
        }
        return false;
    }

    private boolean isByWeights(Term s, Term t) {
        Set<Integer> all = new LinkedHashSet<>();
        t.variables(all);
        for (int v : all) {
            if (t.often(v) > s.often(v)) {
                return false;
            }
        }
        if (weight(s) != weight(t)) {
            return weight(s) > weight(t);
        }
        if (s.isVariable() || t.isVariable()) {
            return false;
        }
        if (s.symbol != t.symbol) {
            return s.symbol > t.symbol;
        }
        for (int k = 0; k < s.arguments.length; k++) {
            if (!s.arguments[k].isAlike(t.arguments[k])) {
                return isByWeights(s.arguments[k], t.arguments[k]);
            }
        }
        return false;
    }

    public int compare(int which) {
        argument(which == 0 || which == 1);
        state(stack.size() >= 2);
        if (isGreater(which, top(1), top(0))) {
            return 1;
        }
        if (isGreater(which, top(0), top(1))) {
            return -1;
        }
        return top(1).isAlike(top(0)) ? 0 : 9;
    }

    // ---- equations

    private void tell(Term left, Term right) {
        Map<Integer, Term> names = names(left, right);
        Pair pair = new Pair(left.put(names), right.put(names));
        pair.number = equations.size();
        pair.uses = 1;
        equations.add(pair);
        waits(pair);
    }

    /** An equation that waits is a pair of its own: its use is the equation forth at 0. */
    private void waits(Pair equation) {
        Pair pair = new Pair(equation.left, equation.right);
        Map<Integer, Term> same = new HashMap<>();
        for (Term t : names(equation.left, equation.right).values()) {
            same.put(t.variable, t);
        }
        List<Use> chain = new ArrayList<>();
        chain.add(new Use(equation, false, List.of(), same));
        pair.takes(chain);
        rows.waits(pair);
    }

    public int equation() {
        state(stack.size() >= 2 && equations.size() < 10 && rows.waiting.size() < 120);
        Term right = pop();
        tell(pop(), right);
        return equations.size() - 1;
    }

    public int condition() {
        state(stack.size() >= 4 && guarded.size() < 4);
        Term left = top(3);
        argument(!left.isVariable());
        Map<Integer, Term> names = names(left);
        for (int k = 0; k < 3; k++) {
            Set<Integer> all = new LinkedHashSet<>();
            top(k).variables(all);
            argument(names.keySet().containsAll(all));
            argument(isGreater(order, left, top(k)));
        }
        Pair pair = new Pair(left.put(names), top(2).put(names));
        pair.one = top(1).put(names);
        pair.other = top(0).put(names);
        for (int k = 0; k < 4; k++) {
            pop();
        }
        guarded.add(pair);
        return guarded.size() - 1;
    }

    public int order(int which) {
        argument(which == 0 || which == 1);
        state(rows.rules.isEmpty() && rows.unturned.isEmpty() && guarded.isEmpty());
        int before = order;
        order = which;
        return before;
    }

    // ---- steps

    private void begin() {
        known.clear();
        looks = 0;
        deep = 0;
    }

    private boolean isAllowed(Term t, Term goes, Term comes, Map<Integer, Term> puts) {
        Set<Integer> all = new LinkedHashSet<>();
        comes.variables(all);
        Set<Integer> has = new LinkedHashSet<>();
        goes.variables(has);
        return has.containsAll(all) && isGreater(order, t, comes.put(puts));
    }

    /** The first use at the place 0 of a part; null if there is none. What comes by it is its right side. */
    private Object[] firstUse(Term t, boolean isFull) {
        for (Pair rule : rows.rules) {
            Map<Integer, Term> puts = matched(rule.left, t);
            if (puts != null) {
                return new Object[] {new Use(rule, false, null, puts), rule.right.put(puts)};
            }
        }
        for (Pair pair : rows.unturned) {
            Map<Integer, Term> puts = matched(pair.left, t);
            if (puts != null && isAllowed(t, pair.left, pair.right, puts)) {
                return new Object[] {new Use(pair, false, null, puts), pair.right.put(puts)};
            }
            puts = matched(pair.right, t);
            if (puts != null && isAllowed(t, pair.right, pair.left, puts)) {
                return new Object[] {new Use(pair, true, null, puts), pair.left.put(puts)};
            }
        }
        for (Pair rule : guarded) {
            Map<Integer, Term> puts = isFull ? matched(rule.left, t) : null;
            if (puts == null) {
                continue;
            }
            looks++;
            if (looks > 20000 || deep > 150) {
                throw new TooMuch();
            }
            Term one = rule.one.put(puts);
            bound(one.size <= SIZE);
            Term other = rule.other.put(puts);
            bound(other.size <= SIZE);
            deep++;
            boolean isSo = fullEnd(one).isAlike(fullEnd(other));
            deep--;
            if (isSo) {
                return new Object[] {new Use(rule, false, null, puts), rule.right.put(puts)};
            }
        }
        return null;
    }

    private Term fullEnd(Term t) {
        Object[] found = known.get(t.text());
        if (found == null) {
            List<Use> steps = new ArrayList<>();
            found = new Object[] {end(t, 0, true, steps)};
            known.put(t.text(), found);
        }
        return (Term) found[0];
    }

    /** The place of the next step and what the whole becomes; null if there is no redex. */
    private Object[] next(Term t, int strategy, boolean isFull) {
        List<Integer> redexes = new ArrayList<>();
        List<Object[]> uses = new ArrayList<>();
        for (int p = 0; p < t.size; p++) {
            Object[] use = firstUse(t.part(p), isFull);
            if (use != null) {
                redexes.add(p);
                uses.add(use);
                if (strategy == 0) {
                    break;
                }
            }
        }
        int best = NONE;
        for (int k = 0; k < redexes.size(); k++) {
            int p = redexes.get(k);
            boolean hasWithin = false;
            boolean isWithin = false;
            for (int q : redexes) {
                hasWithin = hasWithin || q > p && q < p + t.part(p).size;
                isWithin = isWithin || p > q && p < q + t.part(q).size;
            }
            if (strategy == 0 && best == NONE || strategy == 1 && best == NONE && !hasWithin
                    || strategy == 2 && !isWithin || strategy == 3) {
                best = k;
            }
        }
        if (best == NONE) {
            return null;
        }
        int p = redexes.get(best);
        Use use = (Use) uses.get(best)[0];
        Term made = t.with(p, (Term) uses.get(best)[1]);
        bound(made.size <= SIZE);
        return new Object[] {p, made, new Use(use.of, use.isBack, t.way(p), use.puts)};
    }

    private Term end(Term t, int strategy, boolean isFull, List<Use> steps) {
        Term now = t;
        while (true) {
            Object[] next = next(now, strategy, isFull);
            if (next == null) {
                return now;
            }
            bound(steps.size() < 60);
            steps.add((Use) next[2]);
            now = (Term) next[1];
        }
    }

    private Term plainEnd(Term t) {
        return end(t, 0, false, new ArrayList<>());
    }

    public int step(int strategy) {
        argument(strategy >= 0 && strategy <= 3);
        state(!stack.isEmpty());
        begin();
        Object[] next = next(top(0), strategy, true);
        if (next == null) {
            return NONE;
        }
        pop();
        stack.add((Term) next[1]);
        return (Integer) next[0];
    }

    public int end(int strategy) {
        argument(strategy >= 0 && strategy <= 3);
        state(!stack.isEmpty());
        begin();
        List<Use> steps = new ArrayList<>();
        Term t = end(top(0), strategy, true, steps);
        pop();
        stack.add(t);
        return steps.size();
    }

    public int steps(int strategy) {
        argument(strategy >= 0 && strategy <= 3);
        state(!stack.isEmpty());
        begin();
        List<Use> steps = new ArrayList<>();
        end(top(0), strategy, true, steps);
        return steps.size();
    }

    public int redexes() {
        state(!stack.isEmpty());
        begin();
        int n = 0;
        for (int p = 0; p < top(0).size; p++) {
            n += firstUse(top(0).part(p), true) == null ? 0 : 1;
        }
        return n;
    }

    // ---- overlaps and completion

    /** Only those in which a rule takes part, if one is told. */
    private static List<Overlap> overlapsOf(List<Pair> rules, Pair only) {
        List<Overlap> all = new ArrayList<>();
        for (int i = 0; i < rules.size(); i++) {
            for (int j = 0; j < rules.size(); j++) {
                if (only != null && rules.get(i) != only && rules.get(j) != only) {
                    continue;
                }
                for (int p = 0; p < rules.get(j).left.size; p++) {
                    if (p == 0 && i >= j || rules.get(j).left.part(p).isVariable()) {
                        continue;
                    }
                    Overlap o = overlap(rules.get(i), rules.get(j), p);
                    if (o != null) {
                        all.add(o);
                    }
                }
            }
        }
        return all;
    }

    private static Overlap overlap(Pair over, Pair under, int p) {
        Object found = common(shifted(over.left, 1000), under.left.part(p));
        if (found instanceof String) {
            return null;
        }
        Map<Integer, Term> puts = map(found);
        Overlap o = new Overlap();
        o.over = over;
        o.under = under;
        o.place = p;
        o.peak = under.left.put(puts);
        Map<Integer, Term> names = names(o.peak);
        List<Integer> way = under.left.way(p);
        Term left = o.peak.with(o.peak.place(way), shifted(over.right, 1000).put(puts));
        Term right = under.right.put(puts);
        bound(o.peak.size <= SIZE && left.size <= SIZE && right.size <= SIZE);
        o.peak = o.peak.put(names);
        o.left = left.put(names);
        o.right = right.put(names);
        o.putsOver = new HashMap<>();
        for (int v : variables(over)) {
            o.putsOver.put(v, Term.variable(v + 1000).put(puts).put(names));
        }
        o.putsUnder = new HashMap<>();
        for (int v : variables(under)) {
            o.putsUnder.put(v, Term.variable(v).put(puts).put(names));
        }
        return o;
    }

    private static Set<Integer> variables(Pair pair) {
        Set<Integer> all = new LinkedHashSet<>();
        pair.left.variables(all);
        pair.right.variables(all);
        return all;
    }

    public int overlaps() {
        return overlapsOf(rows.rules, null).size();
    }

    public String overlap(int i, int what) {
        argument(what >= 0 && what <= 4);
        List<Overlap> all = overlapsOf(rows.rules, null);
        index(i >= 0 && i < all.size());
        Overlap o = all.get(i);
        Term t = what == 0 ? o.peak : what == 1 || what == 3 ? o.left : o.right;
        return (what < 3 ? t : plainEnd(t)).text();
    }

    public int missing() {
        List<Overlap> all = overlapsOf(rows.rules, null);
        for (int i = 0; i < all.size(); i++) {
            if (!plainEnd(all.get(i).left).isAlike(plainEnd(all.get(i).right))) {
                return i;
            }
        }
        return NONE;
    }

    /** A pair of sides, named, with a chain from one to the other one. */
    private static Pair named(Term left, Term right, List<Use> chain) {
        Map<Integer, Term> names = names(left, right);
        Pair pair = new Pair(left.put(names), right.put(names));
        List<Use> uses = new ArrayList<>();
        for (Use use : chain) {
            Map<Integer, Term> puts = new HashMap<>();
            for (Map.Entry<Integer, Term> e : use.puts.entrySet()) {
                Set<Integer> all = new LinkedHashSet<>();
                e.getValue().variables(all);
                Map<Integer, Term> renamed = new HashMap<>();
                for (int v : all) {
                    renamed.put(v, names.getOrDefault(v, Term.variable(0)));
                }
                puts.put(e.getKey(), e.getValue().put(renamed));
            }
            uses.add(new Use(use.of, use.isBack, use.way, puts));
        }
        pair.takes(uses);
        return pair;
    }

    public int complete() {
        if (rows.waiting.isEmpty()) {
            return NONE;
        }
        Rows before = rows;
        rows = before.copy();
        boolean isDone = false;
        try {
            int told = advanced();
            isDone = true;
            made++;
            dropped += told == 0 ? 1 : 0;
            return told;
        } finally {
            if (!isDone) {
                rows = before;
            }
        }
    }

    private int advanced() {
        Pair next = rows.inOrder().get(0);
        rows.waiting.remove(next);
        List<Use> lefts = new ArrayList<>();
        List<Use> rights = new ArrayList<>();
        Term left = end(next.left, 0, false, lefts);
        Term right = end(next.right, 0, false, rights);
        if (left.isAlike(right)) {
            return 0;
        }
        List<Use> chain = turned(lefts);
        chain.addAll(next.chain);
        chain.addAll(rights);
        boolean isLeft = isGreater(order, left, right);
        boolean isRight = isGreater(order, right, left);
        if (!isLeft && !isRight) {
            bound(rows.unturned.size() < 6);
            rows.unturned.add(named(left, right, chain));
            return 3;
        }
        becomesRule(isLeft ? named(left, right, chain) : named(right, left, turned(chain)));
        return isLeft ? 1 : 2;
    }

    private void becomesRule(Pair rule) {
        for (Pair old : new ArrayList<>(rows.rules)) {
            boolean isMatched = false;
            for (int p = 0; p < old.left.size; p++) {
                isMatched = isMatched || matched(rule.left, old.left.part(p)) != null;
            }
            if (isMatched) {
                rows.rules.remove(old);
                Pair pair = new Pair(old.left, old.right);
                pair.takes(old.chain);
                rows.waits(pair);
            }
        }
        bound(rows.rules.size() < 14);
        rows.rules.add(rule);
        for (int k = 0; k < rows.rules.size() - 1; k++) {
            Pair old = rows.rules.get(k);
            List<Use> steps = new ArrayList<>();
            Term right = end(old.right, 0, false, steps);
            if (!steps.isEmpty()) {
                List<Use> chain = new ArrayList<>(old.chain);
                chain.addAll(steps);
                rows.rules.set(k, named(old.left, right, chain));
            }
        }
        for (Overlap o : overlapsOf(rows.rules, rule)) {
            if (!o.left.isAlike(o.right)) {
                List<Use> chain = new ArrayList<>();
                chain.add(new Use(o.over, true, o.under.left.way(o.place), o.putsOver));
                chain.add(new Use(o.under, false, List.of(), o.putsUnder));
                rows.waits(named(o.left, o.right, chain));
            }
        }
    }

    public int finish(int most) {
        argument(most >= 1 && most <= 12);
        int n = 0;
        try {
            while (n < most && complete() != NONE) {
                n++;
            }
        } catch (Bound e) {
            return n;
        }
        return n;
    }

    public int restart() {
        rows.rules.clear();
        rows.unturned.clear();
        rows.waiting.clear();
        guarded.clear();
        for (Pair equation : equations) {
            waits(equation);
        }
        return rows.waiting.size();
    }

    private static final String[][] EXAMPLES = {
        {"b(a,x0)=x0", "b(c(x0),x0)=a", "b(b(x0,x1),x2)=b(x0,b(x1,x2))"},
        {"c(a,x0)=x0", "c(b(x0,x1),x2)=b(x0,c(x1,x2))", "d(a)=a", "d(b(x0,x1))=c(d(x1),b(x0,a))"},
        {"b(a,x0)=x0", "b(x0,a)=x0", "c(x0,b(x1,x2))=b(c(x0,x1),c(x0,x2))", "c(b(x0,x1),x2)=b(c(x0,x2),c(x1,x2))"}};
    private static final String[][] FINISHED = {
        {"b(x0,a)=x0", "b(x0,c(x0))=a", "b(c(x0),b(x0,x1))=x1", "b(x0,b(c(x0),x1))=x1", "c(a)=a", "c(c(x0))=x0",
            "c(b(x0,x1))=b(c(x1),c(x0))"},
        {},
        {"c(a,x0)=a", "c(x0,a)=a", "d(a)=a", "d(d(x0))=x0"}};
    private static final int[][] ARITIES = {{0, 2, 1}, {0, 2, 2, 1}, {0, 2, 2, 1}};

    public int example(int n, boolean isFinished) {
        argument(n >= 0 && n <= 2);
        stack.clear();
        symbols.clear();
        sums.clear();
        equations.clear();
        restart();
        order = 0;
        for (int arity : ARITIES[n]) {
            symbol(arity, 1);
        }
        if (n == 2) {
            sum(1, true);
        }
        for (String told : EXAMPLES[n]) {
            told(told);
        }
        for (String told : isFinished ? FINISHED[n] : new String[0]) {
            told(told);
        }
        return equations.size();
    }

    private int at;

    private void told(String text) {
        at = 0;
        Term left = read(text);
        at++;
        tell(left, read(text));
    }

    private Term read(String text) {
        char sign = text.charAt(at);
        at++;
        if (sign == 'x') {
            at++;
            return Term.variable(text.charAt(at - 1) - '0');
        }
        Term[] arguments = new Term[symbols.get(sign - 'a')[0]];
        for (int k = 0; k < arguments.length; k++) {
            at++;
            arguments[k] = read(text);
        }
        at += arguments.length > 0 ? 1 : 0;
        return Term.of(sign - 'a', arguments);
    }

    public int many(int what) {
        argument(what >= 0 && what <= 11);
        return new int[] {symbols.size(), stack.size(), equations.size(), rows.rules.size(), rows.waiting.size(),
            rows.unturned.size(), guarded.size(), order, dropped, made, rows.nextAge, knocks}[what];
    }

    public String row(int what, int i) {
        argument(what >= 0 && what <= 6);
        index(i >= 0 && i < many(what));
        if (what == 0) {
            int[] symbol = symbols.get(i);
            return "" + (char) ('a' + i) + symbol[0] + symbol[1] + (sums.get(i) ? "+" : "");
        }
        if (what == 1) {
            return stack.get(i).text();
        }
        List<Pair> all = what == 2 ? equations : what == 3 ? rows.rules : what == 4 ? rows.inOrder()
            : what == 5 ? rows.unturned : guarded;
        Pair pair = all.get(i);
        String sides = pair.left.text() + (what == 3 || what == 6 ? ">" : "=") + pair.right.text();
        return what < 6 ? sides : sides + "|" + pair.one.text() + "=" + pair.other.text();
    }

    public int ofRule(int i, int what) {
        index(i >= 0 && i < rows.rules.size());
        argument(what >= 0 && what <= 2);
        Pair rule = rows.rules.get(i);
        return what == 0 ? rule.left.size : what == 1 ? rule.right.size : (int) Math.min(1000000, rule.uses);
    }

    // ---- proofs

    public boolean same() {
        state(stack.size() >= 2);
        Term second = plainEnd(top(1));
        return second.isAlike(plainEnd(top(0)));
    }

    private List<Use> proof() {
        state(stack.size() >= 2);
        List<Use> steps = new ArrayList<>();
        List<Use> back = new ArrayList<>();
        Term second = end(top(1), 0, false, steps);
        Term top = end(top(0), 0, false, back);
        element(second.isAlike(top));
        steps.addAll(turned(back));
        bound(countOf(steps) <= 300);
        return broughtBack(steps);
    }

    /** Each use is replaced by its chain till all are of equations. */
    private static List<Use> broughtBack(List<Use> uses) {
        List<Use> row = new ArrayList<>(uses);
        int k = 0;
        while (k < row.size()) {
            Use use = row.get(k);
            if (use.of.number != NONE) {
                k++;
                continue;
            }
            row.remove(k);
            List<Use> chain = use.isBack ? turned(use.of.chain) : use.of.chain;
            List<Use> comes = new ArrayList<>();
            for (Use inner : chain) {
                List<Integer> way = new ArrayList<>(use.way);
                way.addAll(inner.way);
                Map<Integer, Term> puts = new HashMap<>();
                for (Map.Entry<Integer, Term> e : inner.puts.entrySet()) {
                    puts.put(e.getKey(), e.getValue().put(use.puts));
                }
                comes.add(new Use(inner.of, inner.isBack, way, puts));
            }
            row.addAll(k, comes);
        }
        return row;
    }

    public int proofSize() {
        return proof().size();
    }

    private static Term behind(Term t, Use use) {
        return t.with(t.place(use.way), (use.isBack ? use.of.left : use.of.right).put(use.puts));
    }

    private static Term behind(Term t, List<Use> uses, int n) {
        Term now = t;
        for (int k = 0; k < n; k++) {
            now = behind(now, uses.get(k));
        }
        return now;
    }

    public String proofUse(int i) {
        List<Use> proof = proof();
        index(i >= 0 && i < proof.size());
        Use use = proof.get(i);
        return use.of.number + (use.isBack ? "<" : ">") + behind(top(1), proof, i).place(use.way);
    }

    public String proofTerm(int i) {
        List<Use> proof = proof();
        index(i >= 0 && i <= proof.size());
        return behind(top(1), proof, i).text();
    }

    public boolean isProved() {
        return isLeading(proof(), top(1), top(0));
    }

    private static boolean isLeading(List<Use> uses, Term from, Term to) {
        Term now = from;
        for (Use use : uses) {
            Term behind = behind(now, use);
            int p = now.place(use.way);
            // By one substitution both sides are what stands there: that of the sides put together.
            Pair of = use.of;
            Map<Integer, Term> puts = new HashMap<>();
            boolean isSo = isMatch(use.isBack ? of.right : of.left, now.part(p), puts)
                && isMatch(use.isBack ? of.left : of.right, behind.part(p), puts);
            if (!isSo) {
                return false;
            }
            now = behind;
        }
        return now.isAlike(to);
    }

    // ---- sums, ends, tables

    private void items(Term t, int symbol, List<Term> all) {
        if (t.symbol != symbol) {
            all.add(t);
            return;
        }
        for (Term a : t.arguments) {
            items(a, symbol, all);
        }
    }

    private Term summed(Term t) {
        if (t.isVariable()) {
            return t;
        }
        Term[] arguments = new Term[t.arguments.length];
        for (int k = 0; k < arguments.length; k++) {
            arguments[k] = summed(t.arguments[k]);
        }
        Term made = Term.of(t.symbol, arguments);
        if (!sums.get(t.symbol)) {
            return made;
        }
        List<Term> items = new ArrayList<>();
        items(made, t.symbol, items);
        items.sort((a, b) -> a.text().compareTo(b.text()));
        Term all = items.get(items.size() - 1);
        for (int k = items.size() - 2; k >= 0; k--) {
            all = Term.of(t.symbol, items.get(k), all);
        }
        return all;
    }

    private int sumsIn(Term t) {
        int n = !t.isVariable() && sums.get(t.symbol) ? 1 : 0;
        for (Term a : t.arguments) {
            n += sumsIn(a);
        }
        return n;
    }

    public int sumForm() {
        state(!stack.isEmpty());
        Term t = summed(pop());
        stack.add(t);
        return sumsIn(t);
    }

    public boolean likeSums() {
        state(stack.size() >= 2);
        return summed(top(1)).isAlike(summed(top(0)));
    }

    public int ends(int size) {
        argument(size >= 1 && size <= 6);
        List<List<Term>> of = new ArrayList<>();
        of.add(new ArrayList<>());
        int count = 0;
        for (int n = 1; n <= size; n++) {
            List<Term> all = new ArrayList<>();
            of.add(all);
            for (int f = 0; f < symbols.size(); f++) {
                List<Term> candidates = new ArrayList<>();
                int arity = symbols.get(f)[0];
                if (arity == 0 && n == 1) {
                    candidates.add(Term.of(f));
                }
                if (arity == 1) {
                    for (Term t : of.get(n - 1)) {
                        candidates.add(Term.of(f, t));
                    }
                }
                for (int m = 1; arity == 2 && m < n - 1; m++) {
                    for (Term s : of.get(m)) {
                        for (Term t : of.get(n - 1 - m)) {
                            candidates.add(Term.of(f, s, t));
                        }
                    }
                }
                for (Term t : candidates) {
                    if (firstUse(t, false) == null) {
                        all.add(t);
                        count++;
                        state(count <= 200);
                    }
                }
            }
        }
        return of.get(size).size();
    }

    private int entriesOf(int f, int n) {
        int arity = symbols.get(f)[0];
        return arity == 0 ? 1 : arity == 1 ? n : n * n;
    }

    private int value(Term t, int[] tables, int n, int[] values) {
        if (t.isVariable()) {
            return values[t.variable];
        }
        int entry = 0;
        for (int f = 0; f < t.symbol; f++) {
            entry += entriesOf(f, n);
        }
        int row = 0;
        for (Term a : t.arguments) {
            row = row * n + value(a, tables, n, values);
        }
        return tables[entry + row];
    }

    private boolean isUnlike(Term s, Term t, int[] tables, int n) {
        int[] values = new int[6];
        while (true) {
            if (value(s, tables, n, values) != value(t, tables, n, values)) {
                return true;
            }
            int v = 0;
            while (v < 6 && (values[v] == n - 1 || !s.contains(v) && !t.contains(v))) {
                values[v] = 0;
                v++;
            }
            if (v == 6) {
                return false;
            }
            values[v]++;
        }
    }

    private boolean isTrue(int[] tables, int n) {
        for (Pair equation : equations) {
            if (isUnlike(equation.left, equation.right, tables, n)) {
                return false;
            }
        }
        return true;
    }

    private List<int[]> allTables(int n) {
        int entries = 0;
        for (int f = 0; f < symbols.size(); f++) {
            entries += entriesOf(f, n);
        }
        bound(Math.pow(n, entries) <= 2048);
        int many = (int) Math.round(Math.pow(n, entries));
        List<int[]> all = new ArrayList<>();
        for (int k = 0; k < many; k++) {
            int[] tables = new int[entries];
            int rest = k;
            for (int e = entries - 1; e >= 0; e--) {
                tables[e] = rest % n;
                rest /= n;
            }
            all.add(tables);
        }
        return all;
    }

    public int tables(int n) {
        argument(n == 2 || n == 3);
        int count = 0;
        for (int[] tables : allTables(n)) {
            count += isTrue(tables, n) ? 1 : 0;
        }
        return count;
    }

    public String table(int n) {
        argument(n == 2 || n == 3);
        state(stack.size() >= 2);
        for (int[] tables : allTables(n)) {
            if (isTrue(tables, n) && isUnlike(top(1), top(0), tables, n)) {
                StringBuilder out = new StringBuilder();
                int e = 0;
                for (int f = 0; f < symbols.size(); f++) {
                    out.append(f == 0 ? "" : ",");
                    for (int k = entriesOf(f, n); k > 0; k--) {
                        out.append(tables[e]);
                        e++;
                    }
                }
                return out.toString();
            }
        }
        return "-";
    }

    // ---- the whole

    public int knock() {
        knocks++;
        return knocks;
    }

    public boolean isSound() {
        for (Pair rule : rows.rules) {
            if (!isGreater(order, rule.left, rule.right)) {
                return false;
            }
            if (rule.uses <= 40 && !isLeading(broughtBack(rule.chain), rule.left, rule.right)) {
                return false;
            }
        }
        if (!rows.waiting.isEmpty() || !rows.unturned.isEmpty()) {
            return true;
        }
        try {
            return missing() == NONE;
        } catch (Bound e) {
            return true;
        }
    }

    public long digest() {
        long d = 6107;
        for (int what = 0; what < 12; what++) {
            d = d * 31 + many(what);
        }
        for (int what = 0; what < 7; what++) {
            for (int i = 0; i < many(what); i++) {
                for (char sign : row(what, i).toCharArray()) {
                    d = d * 31 + sign;
                }
                d = d * 31 + 10;
            }
        }
        for (int i = 0; i < rows.rules.size(); i++) {
            d = d * 31 + ofRule(i, 2);
        }
        return d * 31 + (isSound() ? 1 : 0);
    }
}
