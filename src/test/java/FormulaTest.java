/** Promises 18 to 25: the text buffer, the formulas, and where they hold. */
public final class FormulaTest {
    private static final Due DUE = new Due("FormulaTest");
    private static final int BAD = ProbabilisticChecker.BAD;
    private static final int NONE = ProbabilisticChecker.NONE;
    private static final int FULL = ProbabilisticChecker.FULL;
    private static final int REFUSED = ProbabilisticChecker.REFUSED;

    public static void main(String[] args) {
        feed();
        addFormula();
        errorPositions();
        zeroDivisors();
        nesting();
        longTexts();
        formulaCount();
        clearFormulas();
        letter();
        depth();
        holdsInPlain();
        holdsInProbabilities();
        holdsInSteadyAndRewards();
        refused();
        holds();
        DUE.end();
    }

    /** Adds a formula and returns what addFormula answers. */
    static int add(ProbabilisticChecker x, String text) {
        for (int i = 0; i < text.length(); i++) {
            x.feed(text.charAt(i));
        }
        return x.addFormula();
    }

    /** The set of states of a formula that is added for it and removed again with all others. */
    private static int set(ProbabilisticChecker x, String text) {
        x.clearFormulas();
        int number = add(x, text);
        DUE.is("19: " + text, number, 0);
        return x.holdsIn(number);
    }

    private static void feed() {
        ProbabilisticChecker x = new ProbabilisticChecker();
        DUE.is("18: 32", x.feed(32), BAD);
        DUE.is("18: 127", x.feed(127), BAD);
        DUE.is("18: -1", x.feed(-1), BAD);
        DUE.is("18: 33", x.feed(33), 1);
        DUE.is("18: 126", x.feed(126), 2);
        for (int i = 3; i <= 50; i++) {
            DUE.is("18: on to 50", x.feed('a'), i);
        }
        DUE.is("18: 51", x.feed('a'), FULL);
        DUE.is("18: BAD comes before FULL", x.feed(10), BAD);
        x.addFormula();
        DUE.is("18: empty again", x.feed('a'), 1);
    }

    private static void addFormula() {
        ProbabilisticChecker x = new ProbabilisticChecker();
        DUE.is("19: empty", x.addFormula(), -100);
        for (int i = 0; i < 6; i++) {
            DUE.is("19: number", add(x, "t"), i);
        }
        DUE.is("19: a seventh", add(x, "t"), FULL);
        DUE.is("19: empty after FULL", x.feed('t'), 1);
        x.addFormula();
        DUE.is("19: an error comes before FULL", add(x, "ta"), -101);
        DUE.is("19: empty after an error", x.addFormula(), -100);
        DUE.is("19: nothing added", x.formulaCount(), 6);
        String[] good = {"t", "a", "d", "!a", "(a&b)", "(a|!t)", "P<1[Xa]", "P<=1[Fa]", "P>1[Ga]", "P>=01/02[Ua,b]",
            "P<99/99[B6a,b]", "P>0[B0a,b]", "S>1/2[a]", "R<9[a]", "R>=00[(a&b)]", "P<1[XP<1[Xa]]", "S<1[R<1[t]]"};
        for (String text : good) {
            x.clearFormulas();
            DUE.is("19: " + text, add(x, text), 0);
        }
    }

    private static void errorPositions() {
        ProbabilisticChecker x = new ProbabilisticChecker();
        Object[] bad = {"e", 0, "T", 0, "~", 0, ")", 0, "aa", 1, "tt", 1, "a!", 1, "!", 1, "!&", 1, "(", 1, "(a", 2,
            "(a)", 2, "(a,b)", 2, "(a&", 3, "(a&b", 4, "(a&b|", 4, "(a&b))", 5, "(a&|", 3, "P", 1, "P=", 1, "P<", 2,
            "P<<", 2, "P<>", 2, "P==", 1, "P<=", 3, "P<==", 3, "P<[", 2, "P</", 2, "P<1", 3, "P<12", 4, "P<123", 4,
            "P<1/", 4, "P<1/[", 4, "P<1/2", 5, "P<1/23", 6, "P<1/234", 6, "P<1/2/", 5, "P<1[", 4, "P<1[a", 4,
            "P<1[B", 5, "P<1[Ba", 5, "P<1[B7", 5, "P<1[B6", 6, "P<1[B60", 6, "P<1[B6,", 6, "P<1[B6a", 7,
            "P<1[B6a]", 7, "P<1[B6a,", 8, "P<1[B6a,b", 9, "P<1[U", 5, "P<1[Ua", 6, "P<1[Ua]", 6, "P<1[Ua,]", 7,
            "P<1[X", 5, "P<1[Xa", 6, "P<1[Xa,", 6, "P<1[XX", 5, "P<1[Xa]]", 7, "S<1[Xa", 4, "S<1[a", 5, "S<1[a]a", 6,
            "R<1[Fa]", 4, "R1", 1, "P<a", 2, "P<1(", 3, "(P<1[Xa]&S>=1/2[b]|", 18};
        for (int i = 0; i < bad.length; i += 2) {
            DUE.is("19: " + bad[i], add(x, (String) bad[i]), -100 - (Integer) bad[i + 1]);
        }
        DUE.is("20: none was added", x.formulaCount(), 0);
    }

    private static void zeroDivisors() {
        ProbabilisticChecker x = new ProbabilisticChecker();
        DUE.is("19: 0 at the end", add(x, "P<1/0"), -104);
        DUE.is("19: 00 at the end", add(x, "P<1/00"), -105);
        DUE.is("19: 01 at the end", add(x, "P<1/01"), -106);
        DUE.is("19: 0[", add(x, "P<1/0[Fa]"), -104);
        DUE.is("19: 00[", add(x, "P<1/00[Fa]"), -105);
        DUE.is("19: 000", add(x, "S<1/000"), -105);
        DUE.is("19: 0 and a letter", add(x, "R<=1/0a"), -105);
        DUE.is("19: 10", add(x, "P<1/10"), -106);
        DUE.is("19: 0/ is fine", add(x, "P<0/1[Fa]"), 0);
        DUE.is("19: 01 is 1", add(x, "P<1/01[Fa]"), 1);
    }

    private static void nesting() {
        ProbabilisticChecker x = new ProbabilisticChecker();
        DUE.is("19: five", add(x, "!!!!!a"), 0);
        DUE.is("19: six", add(x, "!!!!!!a"), -105);
        DUE.is("19: six, and its end", add(x, "!!!!!!"), -105);
        DUE.is("19: five, and its end", add(x, "!!!!!"), -105);
        DUE.is("19: five of all kinds", add(x, "!(a&P<1[XS<1[R<1[b]]])"), 1);
        DUE.is("19: a sixth one, !", add(x, "!(a&P<1[XS<1[R<1[!b]]])"), -117);
        DUE.is("19: a sixth one, (", add(x, "!!!!!(a&b)"), -105);
        DUE.is("19: a sixth one, P", add(x, "!!!!!P<1[Xa]"), -105);
        DUE.is("19: a sixth one, S", add(x, "!!!!!S<1[a]"), -105);
        DUE.is("19: a sixth one, R", add(x, "!!!!!R<1[a]"), -105);
        DUE.is("19: in the first of a pair", add(x, "(!!!!!a|t)"), -105);
        DUE.is("19: side by side they do not count", add(x, "(!!!!a|!!!!a)"), 2);
        DUE.is("19: the second one is too deep", add(x, "(!!!!a|!!!!!a)"), -111);
        DUE.is("19: behind the comma", add(x, "P<1[U!!!!a,!!!!!a]"), -115);
    }

    private static void longTexts() {
        ProbabilisticChecker x = new ProbabilisticChecker();
        String fifty = "(P<=10/20[B6!a,!b]&(P<=10/20[B6!a,!b]&S>1/9[!!t]))";
        DUE.is("19: fifty characters", fifty.length(), 50);
        DUE.is("19: fifty", add(x, fifty), 0);
        DUE.is("22: the last one", x.letter(0, 49), ')');
        String open = "(P<=10/20[B6!a,!b]&(P<=10/20[B6!a,!b]&S>11/9[!!t])";
        DUE.is("19: ends too early with the buffer full", add(x, open), -150);
        DUE.is("19: nothing stays behind", add(x, fifty + ")"), 1);
    }

    private static void formulaCount() {
        ProbabilisticChecker x = new ProbabilisticChecker();
        DUE.is("20: none", x.formulaCount(), 0);
        add(x, "a");
        add(x, "x");
        add(x, "b");
        DUE.is("20: two", x.formulaCount(), 2);
    }

    private static void clearFormulas() {
        ProbabilisticChecker x = new ProbabilisticChecker();
        DUE.is("21: none", x.clearFormulas(), 0);
        add(x, "a");
        add(x, "b");
        x.feed('!');
        DUE.is("21: two", x.clearFormulas(), 2);
        DUE.is("21: gone", x.letter(0, 0), BAD);
        DUE.is("21: none again", x.formulaCount(), 0);
        DUE.is("21: the buffer stays", x.feed('c'), 2);
        DUE.is("21: from 0 again", x.addFormula(), 0);
    }

    private static void letter() {
        ProbabilisticChecker x = new ProbabilisticChecker();
        add(x, "(a&!t)");
        add(x, "d");
        DUE.is("22: first", x.letter(0, 0), '(');
        DUE.is("22: last", x.letter(0, 5), ')');
        DUE.is("22: behind", x.letter(0, 6), NONE);
        DUE.is("22: -1", x.letter(0, -1), NONE);
        DUE.is("22: far", x.letter(0, Integer.MAX_VALUE), NONE);
        DUE.is("22: second formula", x.letter(1, 0), 'd');
        DUE.is("22: no such formula", x.letter(2, 0), BAD);
        DUE.is("22: formula -1", x.letter(-1, 0), BAD);
        DUE.is("22: formula 6", x.letter(6, 0), BAD);
    }

    private static void depth() {
        Object[] depths = {"a", 0, "!!(a&b)", 0, "P<1[Xa]", 1, "!S<1[a]", 1, "R<1[a]", 1, "P<1[FS<1[R<1[a]]]", 3,
            "(P<1[Xa]&!P<1[GP<1[Xa]])", 2, "P<1[Ua,P<1[Xa]]", 2, "P<1[UP<1[Xa],a]", 2, "P<1[XP<1[XP<1[XP<1[Xa]]]]", 4,
            "(P<1[XS<1[a]]|t)", 2};
        ProbabilisticChecker x = new ProbabilisticChecker();
        for (int i = 0; i < depths.length; i += 2) {
            x.clearFormulas();
            DUE.is("23: added", add(x, (String) depths[i]), 0);
            DUE.is("23: " + depths[i], x.depth(0), (Integer) depths[i + 1]);
        }
        DUE.is("23: no such formula", x.depth(1), BAD);
        DUE.is("23: -1", x.depth(-1), BAD);
    }

    /** 0 goes to itself 1, to 1 2, to 2 3; 1 to 0 and 3; 2 and 3 stay. 2 has a, 3 has b, 0 and 1 have c. */
    static ProbabilisticChecker gamble() {
        ProbabilisticChecker x = ChainTest.withStates(4);
        x.setWeight(0, 0, 1);
        x.setWeight(0, 1, 2);
        x.setWeight(0, 2, 3);
        x.setWeight(1, 0, 1);
        x.setWeight(1, 3, 1);
        x.setLabels(2, 1);
        x.setLabels(3, 2);
        x.setLabels(0, 4);
        x.setLabels(1, 12);
        x.setReward(0, 3);
        x.setReward(1, 1);
        return x;
    }

    private static void holdsInPlain() {
        ProbabilisticChecker x = gamble();
        Object[] sets = {"t", 15, "a", 4, "b", 8, "c", 3, "d", 2, "!c", 12, "!t", 0, "(a|b)", 12, "(a&b)", 0, "(c&d)", 2,
            "!(c&!d)", 14};
        for (int i = 0; i < sets.length; i += 2) {
            DUE.is("24: " + sets[i], set(x, (String) sets[i]), (Integer) sets[i + 1]);
        }
        DUE.is("24: no such formula", x.holdsIn(1), BAD);
        DUE.is("24: -1", x.holdsIn(-1), BAD);
        ProbabilisticChecker none = new ProbabilisticChecker();
        DUE.is("24: no states", set(none, "t"), 0);
        DUE.is("24: no states", set(none, "P>=0[Ft]"), 0);
        DUE.is("24: no states", set(none, "S>=0[!t]"), 0);
        DUE.is("24: no states", set(none, "R>=0[t]"), 0);
        x.clearFormulas();
        add(x, "c");
        x.setLabels(2, 5);
        DUE.is("24: the chain as it is now", x.holdsIn(0), 7);
        x.removeState();
        x.removeState();
        DUE.is("24: the chain as it is now", x.holdsIn(0), 3);
    }

    /** F a is 3/4 from 0, 3/8 from 1, 1 from 2, 0 from 3. */
    private static void holdsInProbabilities() {
        ProbabilisticChecker x = gamble();
        Object[] sets = {"P>=3/4[Fa]", 5, "P>3/4[Fa]", 4, "P<=3/8[Fa]", 10, "P<3/8[Fa]", 8, "P<=0[Fa]", 8, "P>=1[Fa]", 4,
            "P<99[Fa]", 15, "P>=2[Fa]", 0, "P<0[Fa]", 0, "P>=0[Fa]", 15, "P>=06/08[Fa]", 5, "P>1/2[Xc]", 0,
            "P>=1/2[Xc]", 3, "P<=1/2[Xa]", 11, "P>=1/2[Xa]", 5, "P>=1/4[Gc]", 0, "P<=0[Gc]", 15, "P>=1/4[G!a]", 11,
            "P>1/4[G!a]", 10, "P>=5/8[G!a]", 10, "P>=1[Gt]", 15, "P<=0[G!t]", 15, "P>=3/4[U!d,a]", 4, "P>=3/5[U!d,a]", 5,
            "P>3/5[U!d,a]", 4, "P<=0[U!c,a]", 11, "P>=1[Ub,t]", 15, "P>=7/12[B2t,a]", 5, "P>7/12[B2t,a]", 4,
            "P>0[B0t,a]", 4, "P>0[B1t,a]", 5, "P>=1/4[B2t,a]", 7, "P>1/4[B2t,a]", 5, "P>0[B6d,a]", 4,
            "P>=1[XP<=0[Fa]]", 8, "P>=1/2[XP<=0[Fa]]", 10};
        for (int i = 0; i < sets.length; i += 2) {
            DUE.is("24: " + sets[i], set(x, (String) sets[i]), (Integer) sets[i + 1]);
        }
    }

    private static void holdsInSteadyAndRewards() {
        ProbabilisticChecker x = gamble();
        Object[] sets = {"S>=3/4[a]", 5, "S>3/4[a]", 4, "S<=0[c]", 15, "S>=1[(a|b)]", 15, "S<=1/4[b]", 5, "R<=0[a]", 4,
            "R>=99[a]", 11, "R<99[a]", 4, "R<=0[(a|b)]", 12, "R>4[(a|b)]", 1, "R>=5[(a|b)]", 1, "R>5[(a|b)]", 0,
            "R>=7/2[(a|b)]", 3, "R>7/2[(a|b)]", 1, "R<=14/4[(a|b)]", 14, "R>=0[!t]", 15, "R<99[!t]", 0, "R<=0[t]", 15};
        for (int i = 0; i < sets.length; i += 2) {
            DUE.is("24: " + sets[i], set(x, (String) sets[i]), (Integer) sets[i + 1]);
        }
    }

    private static void refused() {
        ProbabilisticChecker x = ChainTest.withStates(5);
        x.setWeight(0, 0, 7);
        x.setWeight(1, 1, 8);
        x.setWeight(2, 2, 9);
        add(x, "P>=0[B5t,a]");
        add(x, "P>=0[B6t,a]");
        add(x, "(t|S>=0[!P>=0[B6t,a]])");
        add(x, "P<1[B1t,P>=0[B6t,a]]");
        DUE.is("24: 504 to the power 5", x.holdsIn(0), 31);
        DUE.is("24: 504 to the power 6", x.holdsIn(1), REFUSED);
        x.setWeight(2, 2, 3);
        x.setWeight(3, 3, 5);
        DUE.is("24: 840 to the power 5", x.holdsIn(0), 31);
        x.setWeight(2, 2, 9);
        DUE.is("24: 2520 to the power 5", x.holdsIn(0), REFUSED);
        DUE.is("24: a part of it is refused", x.holdsIn(2), REFUSED);
        DUE.is("24: a part of it is refused", x.holdsIn(3), REFUSED);
        DUE.is("25: refused", x.holds(2, 0), REFUSED);
        DUE.is("25: BAD comes before REFUSED", x.holds(2, 5), BAD);
        x.setWeight(3, 3, 0);
        x.setWeight(2, 2, 0);
        DUE.is("24: 56 to the power 6; sum 0 counts as 1", x.holdsIn(2), 31);
        ProbabilisticChecker y = ChainTest.withStates(3);
        y.setWeight(0, 0, 5);
        y.setWeight(0, 1, 5);
        add(y, "P>=1/2[B6t,t]");
        DUE.is("24: 10 to the power 6", y.holdsIn(0), 7);
        y.setWeight(1, 1, 7);
        DUE.is("24: 70 to the power 6", y.holdsIn(0), 7);
        y.setWeight(2, 2, 9);
        DUE.is("24: 630 to the power 6", y.holdsIn(0), REFUSED);
    }

    private static void holds() {
        ProbabilisticChecker x = gamble();
        add(x, "P>=3/4[Fa]");
        int[] due = {1, 0, 1, 0};
        for (int s = 0; s < 4; s++) {
            DUE.is("25: holds", x.holds(0, s), due[s]);
        }
        DUE.is("25: no such state", x.holds(0, 4), BAD);
        DUE.is("25: state -1", x.holds(0, -1), BAD);
        DUE.is("25: no such formula", x.holds(1, 0), BAD);
        DUE.is("25: formula -1", x.holds(-1, 0), BAD);
    }
}
