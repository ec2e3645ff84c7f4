import java.util.Random;

/** Plays random runs of 512 calls on the program and on the oracle, and compares every answer. */
public final class RandomTest {
    private static final int RUNS = 300;
    private static final int CALLS = 512;

    private final Due due;
    private final Random random;
    private final String name;
    private final ProbabilisticChecker x = new ProbabilisticChecker();
    private final Oracle y = new Oracle();
    private int calls = 0;
    private final boolean isWild;

    private RandomTest(Due ownDue, int seed) {
        due = ownDue;
        random = new Random(seed);
        name = "run " + seed + ", ";
        isWild = seed % 3 == 0;
    }

    public static void main(String[] args) {
        Due due = new Due("RandomTest");
        int runs = args.length > 0 ? Integer.parseInt(args[0]) : RUNS;
        for (int seed = 0; seed < runs; seed++) {
            new RandomTest(due, seed).play();
        }
        due.end();
    }

    private void same(String call, long got, long want) {
        calls++;
        due.is(name + "call " + calls + ", " + call, got, want);
    }

    private int below(int n) {
        return random.nextInt(n);
    }

    /** Mostly a state that there is. */
    private int state() {
        int n = y.stateCount();
        return below(40) == 0 || n == 0 ? below(12) - 2 : below(n);
    }

    private int formula() {
        int n = y.formulaCount();
        return below(40) == 0 || n == 0 ? below(9) - 1 : below(n);
    }

    private int part() {
        return below(50) == 0 ? below(5) - 2 : below(2);
    }

    private void play() {
        int states = 1 + below(8);
        for (int i = 0; i < states; i++) {
            same("addState()", x.addState(), y.addState());
        }
        int changes = below(4) == 0 ? below(4) : states * (1 + below(4));
        for (int i = 0; i < changes; i++) {
            weigh();
        }
        for (int i = 0; i < states; i++) {
            label();
        }
        for (int i = 0; i < 3; i++) {
            text();
        }
        while (calls < CALLS - 52) {
            if (below(3) == 0) {
                askChain();
            } else if (below(4) == 0) {
                edit();
            } else {
                askFormulas();
            }
        }
    }

    private void weigh() {
        int from = state();
        int to = state();
        int weight = isWild ? below(12) - 1 : 1 + below(3);
        same("setWeight(" + from + ", " + to + ", " + weight + ")", x.setWeight(from, to, weight),
                y.setWeight(from, to, weight));
    }

    private void label() {
        int s = state();
        int labels = isWild ? below(18) - 1 : below(3) == 0 ? 1 << below(4) : 0;
        same("setLabels(" + s + ", " + labels + ")", x.setLabels(s, labels), y.setLabels(s, labels));
        if (below(2) == 0) {
            int reward = isWild ? below(12) - 1 : below(3);
            same("setReward(" + s + ", " + reward + ")", x.setReward(s, reward), y.setReward(s, reward));
        }
    }

    private void text() {
        StringBuilder text = new StringBuilder();
        write(text, below(4) == 0 ? below(7) : below(4));
        if (below(5) == 0 && text.length() > 0) {
            int i = below(text.length());
            switch (below(3)) {
                case 0 -> text.setCharAt(i, "tabcd!()&|PSR<>=0123456789/[]XFGUB,ze~".charAt(below(38)));
                case 1 -> text.deleteCharAt(i);
                default -> text.setLength(i);
            }
        }
        for (int i = 0; i < text.length() && i < 51; i++) {
            int letter = text.charAt(i);
            same("feed(" + letter + ")", x.feed(letter), y.feed(letter));
        }
        same("addFormula() of " + text, x.addFormula(), y.addFormula());
    }

    /** Appends a random formula of at most so many inside one another. */
    private void write(StringBuilder out, int levels) {
        if (levels == 0 || below(8) == 0) {
            out.append("tabcd".charAt(below(5)));
            return;
        }
        switch (below(7)) {
            case 0 -> {
                out.append('!');
                write(out, levels - 1);
            }
            case 1 -> {
                out.append('(');
                write(out, levels - 1);
                out.append(below(2) == 0 ? '&' : '|');
                write(out, levels - 1);
                out.append(')');
            }
            case 2 -> bounded(out, "S", "", levels);
            case 3 -> bounded(out, "R", "", levels);
            default -> {
                String way = "XFGUB".substring(below(5)).substring(0, 1);
                bounded(out, "P", way.equals("B") ? "B" + below(7) : way, levels);
            }
        }
    }

    private void bounded(StringBuilder out, String kind, String way, int levels) {
        out.append(kind).append(below(2) == 0 ? '<' : '>');
        if (below(2) == 0) {
            out.append('=');
        }
        if (kind.equals("R")) {
            out.append(below(30));
            if (below(3) == 0) {
                out.append('/').append(1 + below(3));
            }
        } else {
            int bottom = 1 + below(below(4) == 0 ? 99 : 5);
            out.append(below(bottom + 1));
            if (bottom > 1 || below(3) == 0) {
                out.append('/').append(below(10) == 0 && bottom < 10 ? "0" : "").append(bottom);
            }
        }
        out.append('[').append(way);
        write(out, levels - 1);
        if (way.startsWith("U") || way.startsWith("B")) {
            out.append(',');
            write(out, levels - 1);
        }
        out.append(']');
    }

    private void edit() {
        switch (below(12)) {
            case 0, 1, 2 -> weigh();
            case 3 -> label();
            case 4 -> same("addState()", x.addState(), y.addState());
            case 5 -> same("removeState()", x.removeState(), y.removeState());
            case 6 -> same("save()", x.save(), y.save());
            case 7 -> same("restore()", x.restore(), y.restore());
            case 8, 9 -> same("undo()", x.undo(), y.undo());
            case 10 -> text();
            default -> {
                if (below(4) == 0) {
                    same("clearFormulas()", x.clearFormulas(), y.clearFormulas());
                }
            }
        }
    }

    private void askChain() {
        int s = state();
        int t = state();
        int part = part();
        switch (below(15)) {
            case 0 -> same("stateCount()", x.stateCount(), y.stateCount());
            case 1 -> same("weight(" + s + ", " + t + ")", x.weight(s, t), y.weight(s, t));
            case 2 -> same("sum(" + s + ")", x.sum(s), y.sum(s));
            case 3 -> same("labels(" + s + ")", x.labels(s), y.labels(s));
            case 4 -> same("reward(" + s + ")", x.reward(s), y.reward(s));
            case 5 -> same("reaches(" + s + ")", x.reaches(s), y.reaches(s));
            case 6 -> same("component(" + s + ")", x.component(s), y.component(s));
            case 7 -> same("bottoms()", x.bottoms(), y.bottoms());
            case 8 -> same("classCount()", x.classCount(), y.classCount());
            case 9 -> same("classOf(" + s + ")", x.classOf(s), y.classOf(s));
            case 10 -> same("lumped(" + s + ", " + t + ", " + part + ")", x.lumped(s, t, part), y.lumped(s, t, part));
            case 11, 12 -> same("share(" + s + ", " + part + ")", x.share(s, part), y.share(s, part));
            case 13 -> {
                int steps = below(20) == 0 ? below(4) * 51 - 51 : below(101);
                int seed = random.nextInt();
                same("walk(" + s + ", " + steps + ", " + seed + ")", x.walk(s, steps, seed), y.walk(s, steps, seed));
            }
            default -> same("formulaCount()", x.formulaCount(), y.formulaCount());
        }
    }

    private void askFormulas() {
        int f = formula();
        int g = formula();
        int s = state();
        int part = part();
        int i = below(10) - 2;
        int k = below(9) - 1;
        String two = f + ", " + g;
        String end = s + ", " + part + ")";
        switch (below(13)) {
            case 0 -> same("letter(" + f + ", " + i + ")", x.letter(f, i), y.letter(f, i));
            case 1 -> same("depth(" + f + ")", x.depth(f), y.depth(f));
            case 2 -> same("holdsIn(" + f + ")", x.holdsIn(f), y.holdsIn(f));
            case 3 -> same("holds(" + f + ", " + s + ")", x.holds(f, s), y.holds(f, s));
            case 4 -> same("next(" + f + ", " + end, x.next(f, s, part), y.next(f, s, part));
            case 5 -> same("until(" + two + ", " + end, x.until(f, g, s, part), y.until(f, g, s, part));
            case 6 -> same("within(" + two + ", " + k + ", " + end, x.within(f, g, k, s, part),
                    y.within(f, g, k, s, part));
            case 7 -> same("never(" + two + ")", x.never(f, g), y.never(f, g));
            case 8 -> same("surely(" + two + ")", x.surely(f, g), y.surely(f, g));
            case 9 -> same("steady(" + f + ", " + end, x.steady(f, s, part), y.steady(f, s, part));
            case 10 -> same("expected(" + f + ", " + end, x.expected(f, s, part), y.expected(f, s, part));
            case 11 -> same("bestPath(" + two + ", " + s + ", " + i + ")", x.bestPath(f, g, s, i),
                    y.bestPath(f, g, s, i));
            default -> same("bestProduct(" + two + ", " + end, x.bestProduct(f, g, s, part),
                    y.bestProduct(f, g, s, part));
        }
    }
}
