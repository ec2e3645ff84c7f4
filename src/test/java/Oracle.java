import java.math.BigInteger;
import java.util.ArrayDeque;
import java.util.ArrayList;
import java.util.Arrays;
import java.util.Deque;
import java.util.HashMap;
import java.util.List;
import java.util.Map;

/**
 * The document written a second time, in other ways than the program: fractions of big integers with pivoting,
 * a stack automaton for texts, classes by signatures, best paths by trying all.
 */
final class Oracle {
    static final int BAD = -1;
    static final int NONE = -2;
    static final int FULL = -3;
    static final int REFUSED = -4;
    static final int INFINITE = -5;

    record Ratio(BigInteger top, BigInteger bottom) implements Comparable<Ratio> {
        static final Ratio ZERO = of(0, 1);
        static final Ratio ONE = of(1, 1);

        static Ratio of(long top, long bottom) {
            return make(BigInteger.valueOf(top), BigInteger.valueOf(bottom));
        }

        static Ratio make(BigInteger top, BigInteger bottom) {
            BigInteger d = top.gcd(bottom);
            if (bottom.signum() < 0) {
                d = d.negate();
            }
            return new Ratio(top.divide(d), bottom.divide(d));
        }

        Ratio plus(Ratio o) {
            return make(top.multiply(o.bottom).add(o.top.multiply(bottom)), bottom.multiply(o.bottom));
        }

        Ratio minus(Ratio o) {
            return plus(new Ratio(o.top.negate(), o.bottom));
        }

        Ratio times(Ratio o) {
            return make(top.multiply(o.top), bottom.multiply(o.bottom));
        }

        Ratio over(Ratio o) {
            return make(top.multiply(o.bottom), bottom.multiply(o.top));
        }

        boolean isZero() {
            return top.signum() == 0;
        }

        @Override
        public int compareTo(Ratio o) {
            return top.multiply(o.bottom).compareTo(o.top.multiply(bottom));
        }

        long part(int part) {
            return (part == 0 ? top : bottom).longValueExact();
        }
    }

    record World(int[][] weights, int[] labels, int[] rewards) {
        static World empty() {
            return new World(new int[0][0], new int[0], new int[0]);
        }

        int size() {
            return labels.length;
        }

        World resized(int n) {
            int[][] w = new int[n][n];
            for (int i = 0; i < n && i < size(); i++) {
                for (int j = 0; j < n && j < size(); j++) {
                    w[i][j] = weights[i][j];
                }
            }
            return new World(w, Arrays.copyOf(labels, n), Arrays.copyOf(rewards, n));
        }

        World copy() {
            return resized(size());
        }
    }

    private World world = World.empty();
    private World snapshot = null;
    private final Deque<World> past = new ArrayDeque<>();
    private final StringBuilder buffer = new StringBuilder();
    private final List<String> texts = new ArrayList<>();

    private void change(World next) {
        past.addLast(world);
        if (past.size() > 8) {
            past.removeFirst();
        }
        world = next;
    }

    private boolean no(int state) {
        return state < 0 || state >= world.size();
    }

    private boolean noPart(int state, int part) {
        return no(state) || part != 0 && part != 1;
    }

    private boolean noText(int f) {
        return f < 0 || f >= texts.size();
    }

    int addState() {
        if (world.size() == 8) {
            return FULL;
        }
        change(world.resized(world.size() + 1));
        return world.size() - 1;
    }

    int removeState() {
        if (world.size() == 0) {
            return NONE;
        }
        change(world.resized(world.size() - 1));
        return world.size();
    }

    int stateCount() {
        return world.size();
    }

    int setWeight(int from, int to, int weight) {
        if (no(from) || no(to) || weight < 0 || weight > 9) {
            return BAD;
        }
        World next = world.copy();
        int old = next.weights()[from][to];
        next.weights()[from][to] = weight;
        if (Arrays.stream(next.weights()[from]).sum() > 10) {
            return FULL;
        }
        change(next);
        return old;
    }

    int weight(int from, int to) {
        return no(from) || no(to) ? BAD : world.weights()[from][to];
    }

    int sum(int s) {
        return no(s) ? BAD : Arrays.stream(world.weights()[s]).sum();
    }

    int setLabels(int s, int labels) {
        if (no(s) || labels < 0 || labels > 15) {
            return BAD;
        }
        World next = world.copy();
        int old = next.labels()[s];
        next.labels()[s] = labels;
        change(next);
        return old;
    }

    int labels(int s) {
        return no(s) ? BAD : world.labels()[s];
    }

    int setReward(int s, int reward) {
        if (no(s) || reward < 0 || reward > 9) {
            return BAD;
        }
        World next = world.copy();
        int old = next.rewards()[s];
        next.rewards()[s] = reward;
        change(next);
        return old;
    }

    int reward(int s) {
        return no(s) ? BAD : world.rewards()[s];
    }

    private Ratio step(int s, int t) {
        int m = sum(s);
        return m == 0 ? Ratio.of(s == t ? 1 : 0, 1) : Ratio.of(world.weights()[s][t], m);
    }

    private boolean[][] closure() {
        int n = world.size();
        boolean[][] r = new boolean[n][n];
        for (int i = 0; i < n; i++) {
            for (int j = 0; j < n; j++) {
                r[i][j] = i == j || !step(i, j).isZero();
            }
        }
        for (int k = 0; k < n; k++) {
            for (int i = 0; i < n; i++) {
                for (int j = 0; j < n; j++) {
                    r[i][j] |= r[i][k] && r[k][j];
                }
            }
        }
        return r;
    }

    int reaches(int s) {
        if (no(s)) {
            return BAD;
        }
        int set = 0;
        for (int t = 0; t < world.size(); t++) {
            set |= closure()[s][t] ? 1 << t : 0;
        }
        return set;
    }

    int component(int s) {
        if (no(s)) {
            return BAD;
        }
        boolean[][] r = closure();
        int set = 0;
        for (int t = 0; t < world.size(); t++) {
            set |= r[s][t] && r[t][s] ? 1 << t : 0;
        }
        return set;
    }

    int bottoms() {
        int set = 0;
        for (int s = 0; s < world.size(); s++) {
            int own = component(s);
            boolean closed = true;
            for (int t = 0; t < world.size(); t++) {
                for (int u = 0; u < world.size(); u++) {
                    if ((own >> t & 1) == 1 && !step(t, u).isZero() && (own >> u & 1) == 0) {
                        closed = false;
                    }
                }
            }
            set |= closed ? 1 << s : 0;
        }
        return set;
    }

    private int[] classes() {
        int n = world.size();
        int[] number = new int[n];
        for (int round = 0; round < n + 2; round++) {
            Map<String, Integer> seen = new HashMap<>();
            int[] next = new int[n];
            for (int s = 0; s < n; s++) {
                StringBuilder sign = new StringBuilder();
                sign.append(world.labels()[s]).append('|').append(world.rewards()[s]).append('|').append(number[s]);
                for (int c = 0; c < n; c++) {
                    Ratio p = Ratio.ZERO;
                    for (int t = 0; t < n; t++) {
                        p = number[t] == c ? p.plus(step(s, t)) : p;
                    }
                    sign.append('|').append(p);
                }
                next[s] = seen.computeIfAbsent(sign.toString(), k -> seen.size());
            }
            number = next;
        }
        return number;
    }

    int classCount() {
        return Arrays.stream(classes()).max().orElse(-1) + 1;
    }

    int classOf(int s) {
        return no(s) ? BAD : classes()[s];
    }

    long lumped(int s, int c, int part) {
        if (noPart(s, part) || c < 0 || c >= classCount()) {
            return BAD;
        }
        Ratio p = Ratio.ZERO;
        for (int t = 0; t < world.size(); t++) {
            p = classes()[t] == c ? p.plus(step(s, t)) : p;
        }
        return p.part(part);
    }

    int feed(int letter) {
        if (letter < 33 || letter > 126) {
            return BAD;
        }
        if (buffer.length() == 50) {
            return FULL;
        }
        buffer.append((char) letter);
        return buffer.length();
    }

    int addFormula() {
        String text = buffer.toString();
        buffer.setLength(0);
        int error = errorIn(text);
        if (error >= 0) {
            return -100 - error;
        }
        if (texts.size() == 6) {
            return FULL;
        }
        texts.add(text);
        return texts.size() - 1;
    }

    /**
     * The error position, or -1. The stack holds what is still to come, as signs: f0 to f5 a formula inside that
     * many, o an operator, bN a bound, = an optional =, n a number, m an optional second digit, / an optional
     * divisor, z its first digit, wN a way, k the steps, others themselves.
     */
    static int errorIn(String text) {
        Deque<String> stack = new ArrayDeque<>();
        stack.push("f0");
        boolean zero = false;
        for (int i = 0; i < text.length(); i++) {
            char c = text.charAt(i);
            boolean digit = Character.isDigit(c);
            boolean read = false;
            while (!read) {
                String top = stack.isEmpty() ? "end" : stack.pop();
                int level = top.length() == 2 ? top.charAt(1) - '0' : 0;
                String inner = "f" + (level + 1);
                if (top.equals("end")) {
                    return i;
                } else if (top.charAt(0) == 'f') {
                    if ("tabcd".indexOf(c) >= 0) {
                        read = true;
                    } else if (level == 5 || "!(PSR".indexOf(c) < 0) {
                        return i;
                    } else if (c == '!') {
                        stack.push(inner);
                    } else if (c == '(') {
                        pushAll(stack, inner, "o", inner, ")");
                    } else if (c == 'P') {
                        pushAll(stack, "<", "=", "n", "/", "[", "w" + (level + 1), "]");
                    } else {
                        pushAll(stack, "<", "=", "n", "/", "[", inner, "]");
                    }
                    read = true;
                } else if (top.charAt(0) == 'w') {
                    String own = "f" + level;
                    if ("XFG".indexOf(c) >= 0) {
                        stack.push(own);
                    } else if (c == 'U') {
                        pushAll(stack, own, ",", own);
                    } else if (c == 'B') {
                        pushAll(stack, "k", own, ",", own);
                    } else {
                        return i;
                    }
                    read = true;
                } else if (top.equals("=")) {
                    read = c == '=';
                } else if (top.equals("/")) {
                    read = c == '/';
                    if (read) {
                        stack.push("z");
                    }
                } else if (top.equals("m")) {
                    read = digit;
                } else if (top.equals("y")) {
                    if (zero && (!digit || c == '0')) {
                        return digit ? i : i - 1;
                    }
                    read = digit;
                } else {
                    boolean fits = switch (top) {
                        case "o" -> c == '&' || c == '|';
                        case "<" -> c == '<' || c == '>';
                        case "n", "z" -> digit;
                        case "k" -> c >= '0' && c <= '6';
                        default -> top.charAt(0) == c;
                    };
                    if (!fits) {
                        return i;
                    }
                    if (top.equals("n")) {
                        stack.push("m");
                    } else if (top.equals("z")) {
                        stack.push("y");
                        zero = c == '0';
                    }
                    read = true;
                }
            }
        }
        if (!stack.isEmpty() && stack.peek().equals("y") && zero) {
            return text.length() - 1;
        }
        return stack.isEmpty() ? -1 : text.length();
    }

    private static void pushAll(Deque<String> stack, String... signs) {
        for (int i = signs.length - 1; i >= 0; i--) {
            stack.push(signs[i]);
        }
    }

    int formulaCount() {
        return texts.size();
    }

    int clearFormulas() {
        int n = texts.size();
        texts.clear();
        return n;
    }

    int letter(int f, int i) {
        if (noText(f)) {
            return BAD;
        }
        return i < 0 || i >= texts.get(f).length() ? NONE : texts.get(f).charAt(i);
    }

    int depth(int f) {
        if (noText(f)) {
            return BAD;
        }
        int most = 0;
        Deque<Character> open = new ArrayDeque<>();
        String text = texts.get(f);
        for (int i = 0; i < text.length(); i++) {
            char c = text.charAt(i);
            if (c == '[') {
                open.push(c);
            } else if (c == ']') {
                open.pop();
            }
            most = Math.max(most, open.size());
        }
        return most;
    }

    private BigInteger multiple() {
        BigInteger l = BigInteger.ONE;
        for (int s = 0; s < world.size(); s++) {
            BigInteger m = BigInteger.valueOf(Math.max(1, sum(s)));
            l = l.multiply(m).divide(l.gcd(m));
        }
        return l;
    }

    private boolean tooFine(int steps) {
        return multiple().pow(steps).compareTo(BigInteger.TEN.pow(15)) > 0;
    }

    private boolean refused(int f) {
        String text = texts.get(f);
        for (int i = 0; i + 1 < text.length(); i++) {
            if (text.charAt(i) == 'B' && tooFine(text.charAt(i + 1) - '0')) {
                return true;
            }
        }
        return false;
    }

    /** Reads and evaluates a text that has no error. */
    private final class Reading {
        private final String text;
        private int at = 0;

        Reading(String ownText) {
            text = ownText;
        }

        int set() {
            int n = world.size();
            int all = (1 << n) - 1;
            char c = text.charAt(at++);
            if (c == 't') {
                return all;
            }
            if (c >= 'a' && c <= 'd') {
                int set = 0;
                for (int s = 0; s < n; s++) {
                    set |= (world.labels()[s] >> (c - 'a') & 1) << s;
                }
                return set;
            }
            if (c == '!') {
                return all - set();
            }
            if (c == '(') {
                int one = set();
                char op = text.charAt(at++);
                int two = set();
                at++;
                return op == '&' ? one & two : one | two;
            }
            return bounded(c);
        }

        private int bounded(char kind) {
            char side = text.charAt(at++);
            boolean equal = text.charAt(at) == '=';
            at += equal ? 1 : 0;
            int top = number();
            int bottom = 1;
            if (text.charAt(at) == '/') {
                at++;
                bottom = number();
            }
            at++;
            Ratio[] values = values(kind);
            at++;
            int set = 0;
            for (int s = 0; s < world.size(); s++) {
                int c = values[s] == null ? 1 : values[s].compareTo(Ratio.of(top, bottom));
                boolean fits = side == '<' ? c < 0 : c > 0;
                set |= fits || equal && c == 0 ? 1 << s : 0;
            }
            return set;
        }

        private Ratio[] values(char kind) {
            if (kind == 'S') {
                return steadyValues(set());
            }
            if (kind == 'R') {
                return expectedValues(set());
            }
            char way = text.charAt(at++);
            int all = (1 << world.size()) - 1;
            if (way == 'X') {
                return nextValues(set());
            }
            if (way == 'F') {
                return untilValues(all, set());
            }
            if (way == 'G') {
                Ratio[] values = untilValues(all, all - set());
                for (int s = 0; s < values.length; s++) {
                    values[s] = Ratio.ONE.minus(values[s]);
                }
                return values;
            }
            int steps = way == 'B' ? text.charAt(at++) - '0' : -1;
            int one = set();
            at++;
            int two = set();
            return way == 'B' ? withinValues(one, two, steps) : untilValues(one, two);
        }

        private int number() {
            int start = at;
            while (Character.isDigit(text.charAt(at))) {
                at++;
            }
            return Integer.parseInt(text.substring(start, at));
        }
    }

    private int set(int f) {
        return new Reading(texts.get(f)).set();
    }

    private static boolean in(int set, int s) {
        return (set >> s & 1) == 1;
    }

    private Ratio[] nextValues(int goal) {
        int n = world.size();
        Ratio[] v = new Ratio[n];
        for (int s = 0; s < n; s++) {
            v[s] = Ratio.ZERO;
            for (int t = 0; t < n; t++) {
                v[s] = in(goal, t) ? v[s].plus(step(s, t)) : v[s];
            }
        }
        return v;
    }

    private Ratio[] withinValues(int one, int two, int steps) {
        int n = world.size();
        Ratio[] v = new Ratio[n];
        for (int s = 0; s < n; s++) {
            v[s] = in(two, s) ? Ratio.ONE : Ratio.ZERO;
        }
        for (int k = 0; k < steps; k++) {
            Ratio[] w = v.clone();
            for (int s = 0; s < n; s++) {
                if (!in(two, s) && in(one, s)) {
                    w[s] = Ratio.ZERO;
                    for (int t = 0; t < n; t++) {
                        w[s] = w[s].plus(step(s, t).times(v[t]));
                    }
                }
            }
            v = w;
        }
        return v;
    }

    private boolean[] possible(int one, int two) {
        int n = world.size();
        boolean[] p = new boolean[n];
        for (int round = 0; round <= n; round++) {
            for (int s = 0; s < n; s++) {
                boolean goes = false;
                for (int t = 0; t < n; t++) {
                    goes |= p[t] && !step(s, t).isZero();
                }
                p[s] |= in(two, s) || in(one, s) && goes;
            }
        }
        return p;
    }

    private Ratio[] untilValues(int one, int two) {
        int n = world.size();
        boolean[] p = possible(one, two);
        Ratio[][] a = new Ratio[n][n + 1];
        for (int s = 0; s < n; s++) {
            Arrays.fill(a[s], Ratio.ZERO);
            a[s][s] = Ratio.ONE;
            if (in(two, s)) {
                a[s][n] = Ratio.ONE;
            } else if (p[s]) {
                for (int t = 0; t < n; t++) {
                    a[s][t] = a[s][t].minus(step(s, t));
                }
            }
        }
        return solve(a);
    }

    /** Null stands for an infinite value. */
    private Ratio[] expectedValues(int goal) {
        int n = world.size();
        Ratio[] p = untilValues((1 << n) - 1, goal);
        Ratio[][] a = new Ratio[n][n + 1];
        for (int s = 0; s < n; s++) {
            Arrays.fill(a[s], Ratio.ZERO);
            a[s][s] = Ratio.ONE;
            if (!in(goal, s) && p[s].equals(Ratio.ONE)) {
                a[s][n] = Ratio.of(world.rewards()[s], 1);
                for (int t = 0; t < n; t++) {
                    a[s][t] = a[s][t].minus(step(s, t));
                }
            }
        }
        Ratio[] v = solve(a);
        for (int s = 0; s < n; s++) {
            v[s] = p[s].equals(Ratio.ONE) ? v[s] : null;
        }
        return v;
    }

    private Ratio[] steadyValues(int goal) {
        int n = world.size();
        Ratio[] v = new Ratio[n];
        Arrays.fill(v, Ratio.ZERO);
        int open = bottoms();
        for (int r = 0; r < n; r++) {
            if (in(open, r)) {
                int own = component(r);
                open &= ~own;
                Ratio inside = Ratio.ZERO;
                Ratio[] pi = stationary(own, r);
                for (int s = 0; s < n; s++) {
                    inside = in(own & goal, s) ? inside.plus(pi[s]) : inside;
                }
                Ratio[] come = untilValues((1 << n) - 1, own);
                for (int s = 0; s < n; s++) {
                    v[s] = v[s].plus(come[s].times(inside));
                }
            }
        }
        return v;
    }

    private Ratio[] stationary(int own, int lowest) {
        int n = world.size();
        Ratio[][] a = new Ratio[n][n + 1];
        for (int t = 0; t < n; t++) {
            Arrays.fill(a[t], Ratio.ZERO);
            for (int s = 0; s < n; s++) {
                if (t == lowest) {
                    a[t][s] = in(own, s) ? Ratio.ONE : Ratio.ZERO;
                } else if (in(own, t)) {
                    a[t][s] = in(own, s) ? step(s, t) : Ratio.ZERO;
                }
            }
            if (t == lowest) {
                a[t][n] = Ratio.ONE;
            } else {
                a[t][t] = a[t][t].minus(Ratio.ONE);
            }
        }
        return solve(a);
    }

    private static Ratio[] solve(Ratio[][] a) {
        int n = a.length;
        for (int c = 0; c < n; c++) {
            int r = n - 1;
            while (a[r][c].isZero()) {
                r--;
            }
            if (r < c) {
                throw new IllegalStateException("no pivot");
            }
            Ratio[] row = a[r];
            a[r] = a[c];
            a[c] = row;
            Ratio lead = row[c];
            for (int j = 0; j <= n; j++) {
                row[j] = row[j].over(lead);
            }
            for (int i = 0; i < n; i++) {
                Ratio f = a[i][c];
                if (i != c && !f.isZero()) {
                    for (int j = 0; j <= n; j++) {
                        a[i][j] = a[i][j].minus(f.times(row[j]));
                    }
                }
            }
        }
        Ratio[] v = new Ratio[n];
        for (int i = 0; i < n; i++) {
            v[i] = a[i][n];
        }
        return v;
    }

    int holdsIn(int f) {
        return noText(f) ? BAD : refused(f) ? REFUSED : set(f);
    }

    int holds(int f, int s) {
        return noText(f) || no(s) ? BAD : refused(f) ? REFUSED : set(f) >> s & 1;
    }

    long next(int f, int s, int part) {
        return noText(f) || noPart(s, part) ? BAD : refused(f) ? REFUSED : nextValues(set(f))[s].part(part);
    }

    long until(int f, int g, int s, int part) {
        if (noText(f) || noText(g) || noPart(s, part)) {
            return BAD;
        }
        return refused(f) || refused(g) ? REFUSED : untilValues(set(f), set(g))[s].part(part);
    }

    long within(int f, int g, int steps, int s, int part) {
        if (noText(f) || noText(g) || noPart(s, part) || steps < 0 || steps > 6) {
            return BAD;
        }
        return refused(f) || refused(g) || tooFine(steps) ? REFUSED
                : withinValues(set(f), set(g), steps)[s].part(part);
    }

    private int whereUntilIs(int f, int g, Ratio value) {
        if (noText(f) || noText(g)) {
            return BAD;
        }
        if (refused(f) || refused(g)) {
            return REFUSED;
        }
        Ratio[] v = untilValues(set(f), set(g));
        int set = 0;
        for (int s = 0; s < v.length; s++) {
            set |= v[s].equals(value) ? 1 << s : 0;
        }
        return set;
    }

    int never(int f, int g) {
        return whereUntilIs(f, g, Ratio.ZERO);
    }

    int surely(int f, int g) {
        return whereUntilIs(f, g, Ratio.ONE);
    }

    long steady(int f, int s, int part) {
        return noText(f) || noPart(s, part) ? BAD : refused(f) ? REFUSED : steadyValues(set(f))[s].part(part);
    }

    long share(int s, int part) {
        return noPart(s, part) ? BAD : steadyValues(1 << s)[s].part(part);
    }

    long expected(int f, int s, int part) {
        if (noText(f) || noPart(s, part)) {
            return BAD;
        }
        if (refused(f)) {
            return REFUSED;
        }
        Ratio v = expectedValues(set(f))[s];
        return v == null ? INFINITE : v.part(part);
    }

    private List<Integer> bestWay;
    private Ratio bestChance;

    private void tryPaths(List<Integer> way, Ratio chance, int one, int two) {
        int s = way.get(way.size() - 1);
        if (in(two, s)) {
            int c = bestWay == null ? 1 : chance.compareTo(bestChance);
            if (c > 0 || c == 0 && (way.size() < bestWay.size()
                    || way.size() == bestWay.size() && comesBefore(way, bestWay))) {
                bestWay = new ArrayList<>(way);
                bestChance = chance;
            }
        } else if (in(one, s)) {
            for (int t = 0; t < world.size(); t++) {
                if (!way.contains(t) && !step(s, t).isZero()) {
                    way.add(t);
                    tryPaths(way, chance.times(step(s, t)), one, two);
                    way.remove(way.size() - 1);
                }
            }
        }
    }

    private static boolean comesBefore(List<Integer> one, List<Integer> two) {
        for (int i = 0; i < one.size(); i++) {
            if (!one.get(i).equals(two.get(i))) {
                return one.get(i) < two.get(i);
            }
        }
        return false;
    }

    private void findBest(int f, int g, int s) {
        bestWay = null;
        bestChance = null;
        List<Integer> way = new ArrayList<>();
        way.add(s);
        tryPaths(way, Ratio.ONE, set(f), set(g));
    }

    int bestPath(int f, int g, int s, int i) {
        if (noText(f) || noText(g) || no(s) || i < -1) {
            return BAD;
        }
        if (refused(f) || refused(g)) {
            return REFUSED;
        }
        findBest(f, g, s);
        if (bestWay == null || i >= bestWay.size()) {
            return NONE;
        }
        return i == -1 ? bestWay.size() : bestWay.get(i);
    }

    long bestProduct(int f, int g, int s, int part) {
        if (noText(f) || noText(g) || noPart(s, part)) {
            return BAD;
        }
        if (refused(f) || refused(g)) {
            return REFUSED;
        }
        findBest(f, g, s);
        return bestWay == null ? NONE : bestChance.part(part);
    }

    int walk(int s, int steps, int seed) {
        if (no(s) || steps < 0 || steps > 100) {
            return BAD;
        }
        BigInteger z = BigInteger.valueOf(seed);
        int at = s;
        for (int i = 0; i < steps; i++) {
            z = z.multiply(BigInteger.valueOf(1103515245)).add(BigInteger.valueOf(12345));
            int m = sum(at);
            if (m > 0) {
                int r = z.mod(BigInteger.ONE.shiftLeft(32)).shiftRight(8).mod(BigInteger.valueOf(m)).intValue();
                int t = 0;
                int upTo = world.weights()[at][0];
                while (upTo <= r) {
                    t++;
                    upTo += world.weights()[at][t];
                }
                at = t;
            }
        }
        return at;
    }

    int save() {
        snapshot = world;
        return world.size();
    }

    int restore() {
        if (snapshot == null) {
            return NONE;
        }
        change(snapshot);
        return world.size();
    }

    int undo() {
        if (past.isEmpty()) {
            return NONE;
        }
        world = past.removeLast();
        return past.size();
    }
}
