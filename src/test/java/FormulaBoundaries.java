/** The boundaries of texts and formulas: promises 18 to 25, and what the description says of formulas. */
final class FormulaBoundaries {
    private static final int BAD = ProbabilisticChecker.BAD;
    private static final int NONE = ProbabilisticChecker.NONE;
    private static final int FULL = ProbabilisticChecker.FULL;
    private static final String BEGINS = "tabcd!(PSR";
    private static final String LEAVES = "tabcd";
    private static final String DIGITS = "0123456789";
    /** A formula of fifty letters, and five inside one another if one more is put around it. */
    private static final String FIFTY = "(P<=10/20[B6!a,!b]&(P<=10/20[B6!a,!b]&S>1/19[!t]))";
    private static final int[] NO_FORMULAS = {-1, 3, 4, 5, 6, 7, Integer.MIN_VALUE, Integer.MAX_VALUE};

    private final Clauses c;

    FormulaBoundaries(Clauses clauses) {
        c = clauses;
    }

    void run() {
        formulaRule();
        otherRules();
        numbers();
        fiveInside();
        errorPositions();
        endsTooEarly();
        sixthAndZero();
        roomDoesNotMatter();
        feed();
        addFormula();
        sixFormulas();
        clearFormulas();
        letter();
        depth();
        holdsIn();
    }

    static int add(ProbabilisticChecker x, String text) {
        return FormulaTest.add(x, text);
    }

    private static int addAlone(String text) {
        return add(new ProbabilisticChecker(), text);
    }

    /** Behind the text, exactly these characters can follow; each other one of the 94 is the error. */
    private void follows(String text, String signs) {
        for (char sign = 33; sign <= 126; sign++) {
            int answer = addAlone(text + sign);
            int error = answer >= 0 ? text.length() + 1 : -100 - answer;
            if (signs.indexOf(sign) >= 0) {
                c.is(text + sign + " can go on", error, text.length() + 1);
            } else {
                c.is(text + sign + " is an error", error, text.length());
            }
        }
    }

    private void formulaRule() {
        c.of(0, "formula = \"t\" | label | \"!\" formula | \"(\" formula ( \"&\" | \"|\" ) formula \")\" | \"P\" bound "
                + "\"[\" way \"]\" | \"S\" bound \"[\" formula \"]\" | \"R\" bound \"[\" formula \"]\"");
        follows("", BEGINS);
        String[] whole = {"t", "a", "b", "c", "d", "!a", "(a&b)", "(a|b)", "P<1[Xa]", "S<1[a]", "R<1[a]"};
        for (String text : whole) {
            c.is(text, addAlone(text), 0);
            follows(text, "");
            follows("!" + text, "");
            follows("(" + text, "&|");
            follows("(t&" + text, ")");
            follows("P<1[G" + text, "]");
            follows("S<1[" + text, "]");
            follows("R<1[" + text, "]");
        }
        String[] begun = {"!", "(", "(a&", "(a|", "S<1[", "R<1[", "!!!!", "((a&b)|"};
        for (String text : begun) {
            follows(text, BEGINS);
        }
        follows("P<1[", "XFGUB");
        follows("P", "<>");
        follows("S", "<>");
        follows("R", "<>");
        c.of(0, "label = \"a\" | \"b\" | \"c\" | \"d\"");
        for (char sign = 33; sign <= 126; sign++) {
            boolean isLeaf = sign == 't' || sign >= 'a' && sign <= 'd';
            c.is("alone, " + sign, addAlone("" + sign) == 0 ? 1 : 0, isLeaf ? 1 : 0);
        }
        c.of(0, "The text of a formula, without blanks, has this form, where brackets in quotes stand for themselves and "
                + "other brackets mean that something can be left out:");
        c.is("no blank can be fed", new ProbabilisticChecker().feed(' '), BAD);
        c.is("the brackets of the rules are no signs", addAlone("P<1/[2]"), -104);
        c.is("brackets around one formula", addAlone("(a)"), -102);
        c.is("what can be left out", addAlone("P<1[Xa]"), 0);
        c.is("and is not", addAlone("P<1/2[Xa]"), 0);
    }

    private void otherRules() {
        c.of(0, "bound = ( \"<\" | \"<=\" | \">\" | \">=\" ) number [ \"/\" number ]");
        String[] kinds = {"P", "S", "R", "!P", "(a&S", "P<1[UR"};
        for (String kind : kinds) {
            follows(kind + "<", "=" + DIGITS);
            follows(kind + ">", "=" + DIGITS);
            follows(kind + "<=", DIGITS);
            follows(kind + ">=", DIGITS);
            follows(kind + "<1", DIGITS + "/[");
            follows(kind + ">=0", DIGITS + "/[");
            follows(kind + "<12", "/[");
            follows(kind + "<=00", "/[");
            follows(kind + "<1/3", DIGITS + "[");
            follows(kind + ">12/34", "[");
            follows(kind + ">12/05", "[");
        }
        c.of(0, "way = \"X\" formula | \"F\" formula | \"G\" formula | \"U\" formula \",\" formula | \"B\" digit formula "
                + "\",\" formula");
        String[] one = {"P<1[X", "P<1[F", "P<1[G"};
        for (String text : one) {
            follows(text, BEGINS);
            follows(text + "a", "]");
        }
        String[] two = {"P<1[U", "P<1[B0", "P<1[B6"};
        for (String text : two) {
            follows(text, BEGINS);
            follows(text + "a", ",");
            follows(text + "a,", BEGINS);
            follows(text + "a,b", "]");
            follows(text + "(a|b)", ",");
        }
        follows("P<1[B", "0123456");
    }

    private void numbers() {
        c.of(0, "number = digit [ digit ]");
        for (int n = 0; n <= 99; n++) {
            ProbabilisticChecker x = fifty();
            add(x, "R>=" + n + "[a]");
            c.is("50 is at least " + n + ", and 0", x.holdsIn(0), (n <= 50 ? 1 : 0) | (n == 0 ? 2 : 0));
        }
        c.is("two zeros", addAlone("P<00[Xa]"), 0);
        c.of(0, "The number behind \"/\" is not 0, the digit behind B is from 0 to 6, and a second digit that follows is "
                + "always part of the number");
        for (int n = 0; n <= 9; n++) {
            c.is("/" + n, addAlone("P<1/" + n + "[Xa]"), n == 0 ? -104 : 0);
            c.is("B" + n, addAlone("P<1[B" + n + "a,b]"), n <= 6 ? 0 : -105);
            for (int m = 0; m <= 9; m++) {
                c.is("/" + n + m, addAlone("S<1/" + n + m + "[a]"), n == 0 && m == 0 ? -105 : 0);
                c.is("B" + n + m, addAlone("P<1[B" + n + m + "a,b]"), n <= 6 ? -106 : -105);
                c.is("a third digit", addAlone("R<1/" + n + m + "5[a]"), n == 0 && m == 0 ? -105 : -106);
            }
        }
        c.is("0 before / is fine", addAlone("P>0/1[Xa]"), 0);
        c.is("00 before / is fine", addAlone("P>00/99[Xa]"), 0);
        secondDigits();
    }

    /** The expected reward for a is 50 from 0, and 0 from 1. */
    private static ProbabilisticChecker fifty() {
        ProbabilisticChecker x = ChainTest.withStates(2);
        x.setWeight(0, 0, 9);
        x.setWeight(0, 1, 1);
        x.setReward(0, 5);
        x.setLabels(1, 1);
        return x;
    }

    /** The expected reward 50 against fractions whose second digits make the difference. */
    private void secondDigits() {
        String[] less = {"R>49[a]", "R>=50[a]", "R>99/2[a]", "R>=50/01[a]", "R>98/02[a]", "R>4[a]", "R>09[a]"};
        for (String text : less) {
            ProbabilisticChecker x = fifty();
            add(x, text);
            c.is(text, x.holdsIn(0), 1);
        }
        String[] more = {"R<51[a]", "R<=50[a]", "R<=50/1[a]", "R<99/01[a]", "R<=99/1[a]"};
        for (String text : more) {
            ProbabilisticChecker x = fifty();
            add(x, text);
            c.is(text, x.holdsIn(0), 3);
        }
        String[] zero = {"R<5[a]", "R<=49[a]", "R<50[a]", "R<50/10[a]", "R<99/2[a]", "R<=99/99[a]"};
        for (String text : zero) {
            ProbabilisticChecker x = fifty();
            add(x, text);
            c.is(text, x.holdsIn(0), 2);
        }
    }

    private void fiveInside() {
        c.of(0, "At most 5 formulas of the forms that begin with \"!\", \"(\", \"P\", \"S\" or \"R\" are inside one "
                + "another");
        String[] open = {"!", "(t&", "(", "P<1[X", "P<1[F", "P<1[G", "P<1[U", "P<1[Ut,", "P<1[B3", "P<1[B3t,", "S<1[",
            "R<1["};
        String[] close = {"", ")", "&t)", "]", "]", "]", ",t]", "]", ",t]", "]", "]", "]"};
        for (int i = 0; i < open.length; i++) {
            String five = open[i] + "!!!!a" + close[i];
            String six = open[i] + "!!!!!a" + close[i];
            c.is(five, addAlone(five), 0);
            c.is(six, addAlone(six), -100 - open[i].length() - 4);
            String inside = "!!!!" + open[i] + "a" + close[i];
            c.is(inside, addAlone(inside), 0);
            c.is("!" + inside, addAlone("!" + inside), -105);
        }
        follows("!!!!!", LEAVES);
        follows("(a|(a|(a|(a|(a|", LEAVES);
        follows("S<1[R<1[P<1[X!(", LEAVES);
        follows("P<1[UP<1[UP<1[B0P<1[B1P<1[Ua,", LEAVES);
        c.is("side by side", addAlone("((!!!a&!!!a)|(!!!a&!!!a))"), 0);
        c.is("side by side, one too deep", addAlone("((!!!a&!!!a)|(!!!a&!!!!a))"), -122);
        c.is("in the first of two ways", addAlone("P<1[U!!!!!a,a]"), -109);
        c.is("t does not count", addAlone("!!!!!t"), 0);
    }

    private void errorPositions() {
        c.of(0, "The error position of a text is the index of the first character that cannot continue the text of a "
                + "formula, or the length of the text if it ends too early");
        String good = FIFTY;
        c.is("fifty", good.length(), 50);
        for (int i = 0; i < 50; i++) {
            // No rule has a ~.
            c.is("the character " + i, addAlone(good.substring(0, i) + "~" + good.substring(i + 1)), -100 - i);
        }
        c.is("the first error counts", addAlone("(~~"), -101);
        c.is("the first error counts", addAlone("P<1[Ya&"), -104);
        c.is("behind a whole formula", addAlone("a" + good.substring(1)), -101);
        c.is("two whole formulas", addAlone("S<1[a]S<1[a]"), -106);
    }

    private void endsTooEarly() {
        c.of(0, "The error position of a text is the index of the first character that cannot continue the text of a "
                + "formula, or the length of the text if it ends too early");
        String[] whole = {FIFTY, "R>=12/34[(a|!S<9[d])]", "!!!!!t",
            "P<1[U(a&b),P>=2/3[Xc]]", "P>9[F!t]", "P<=99/98[G(t|t)]"};
        for (String text : whole) {
            c.is(text, addAlone(text), 0);
            for (int n = 0; n < text.length(); n++) {
                c.is("the first " + n + " of " + text, addAlone(text.substring(0, n)), -100 - n);
            }
        }
    }

    private void sixthAndZero() {
        c.of(0, "the first character of a sixth such formula inside the others and the last digit of a number 0 behind "
                + "\"/\", also at the end of the text, are such characters, too");
        String[] sixth = {"!", "(", "P", "S", "R"};
        for (String sign : sixth) {
            c.is("at the end of the text, " + sign, addAlone("!!!!!" + sign), -105);
            c.is("and going on, " + sign, addAlone("!!!!!" + sign + "<1[Xa]"), -105);
            c.is("and wrong behind it, " + sign, addAlone("!!!!!" + sign + "~"), -105);
        }
        String[] kinds = {"P<1", "S>=1", "R<=99", "(a&P<1", "P<1[XS<2"};
        for (String kind : kinds) {
            int slash = kind.length();
            c.is("/0 at the end", addAlone(kind + "/0"), -101 - slash);
            c.is("/00 at the end", addAlone(kind + "/00"), -102 - slash);
            c.is("/0[", addAlone(kind + "/0["), -101 - slash);
            c.is("/00[", addAlone(kind + "/00["), -102 - slash);
            c.is("/0]", addAlone(kind + "/0]"), -101 - slash);
            c.is("/0/", addAlone(kind + "/0/"), -101 - slash);
            c.is("/0~", addAlone(kind + "/0~"), -101 - slash);
            c.is("/000", addAlone(kind + "/000"), -102 - slash);
            c.is("/001", addAlone(kind + "/001"), -102 - slash);
            c.is("/01 ends too early", addAlone(kind + "/01"), -103 - slash);
            c.is("/10 ends too early", addAlone(kind + "/10"), -103 - slash);
            c.is("/ ends too early", addAlone(kind + "/"), -101 - slash);
            c.is("/[", addAlone(kind + "/["), -101 - slash);
        }
        c.is("a zero before / is none of them", addAlone("P<0"), -103);
        c.is("a zero before / is none of them", addAlone("P<00"), -104);
    }

    private void roomDoesNotMatter() {
        c.of(0, "that the buffer has no room for more does not matter");
        String begun = FIFTY.substring(0, 49);
        c.is("one bracket is missing", addAlone(begun), -149);
        c.is("fifty letters, and two brackets are missing", addAlone("(" + begun), -150);
        String half = "(P<=10/20[B6!a,!b]&(P<=10/20[B6!a,!b]&(!a|S<=1/1[";
        c.is("forty-nine", half.length(), 49);
        c.is("a formula begins at the last place", addAlone(half + "("), -150);
        c.is("a formula begins at the last place", addAlone(half + "P"), -150);
        c.is("a whole one at the last place, without what must follow", addAlone(half + "a"), -150);
        c.is("an error at the last place", addAlone(half + "]"), -149);
        c.is("a zero at the last place", addAlone("(P<=10/20[B6!a,!b]&(P<=10/20[B6!a,!b]&(a&(b|S>10/0"), -149);
        c.is("a sixth one at the last place", addAlone("(P<=10/20[B6!a,!b]&(P<=10/20[B6!a,!b]&(!a&(!t&(t|!"), -149);
    }

    private void feed() {
        c.of(18, "Appends a character to the text buffer, which is initially empty");
        c.is("empty", new ProbabilisticChecker().addFormula(), -100);
        c.is("the first one", new ProbabilisticChecker().feed('z'), 1);
        ProbabilisticChecker x = new ProbabilisticChecker();
        x.feed('!');
        x.feed('d');
        x.addFormula();
        c.is("in their order", x.letter(0, 0) * 1000 + x.letter(0, 1), '!' * 1000 + 'd');
        c.of(18, "`letter`: the character, 33 to 126");
        ProbabilisticChecker y = new ProbabilisticChecker();
        for (int letter = -3; letter <= 260; letter++) {
            boolean fits = letter >= 33 && letter <= 126;
            c.is("letter " + letter, y.feed(letter) == BAD ? 0 : 1, fits ? 1 : 0);
        }
        c.of(18, "BAD if letter is out of range");
        int[] wrong = {32, 127, 0, -1, -33, 128, 255, 256 + 'a', 65536 + 'a', Integer.MIN_VALUE, Integer.MAX_VALUE};
        for (int letter : wrong) {
            c.is("an empty buffer, " + letter, new ProbabilisticChecker().feed(letter), BAD);
            c.is("a full buffer, " + letter, y.feed(letter), BAD);
        }
        c.of(18, "Returns the number of characters in the buffer");
        ProbabilisticChecker z = new ProbabilisticChecker();
        for (int n = 1; n <= 50; n++) {
            c.is("one more", z.feed(n % 2 == 0 ? 33 : 126), n);
        }
        c.of(18, "FULL if there are 50 characters");
        c.is("the fifty-first", z.feed(33), FULL);
        c.is("again", z.feed(126), FULL);
        c.is("its error is still that of the first one", z.addFormula(), -100);
        c.is("there is room again", z.feed('a'), 1);
    }

    private void addFormula() {
        c.of(19, "Adds the formula whose text is in the buffer");
        ProbabilisticChecker x = new ProbabilisticChecker();
        c.is("a full buffer", add(x, FIFTY), 0);
        for (int i = 0; i < 50; i++) {
            c.is("its text", x.letter(0, i), FIFTY.charAt(i));
        }
        c.is("no more", x.letter(0, 50), NONE);
        c.is("one letter", add(x, "t"), 1);
        c.of(19, "The buffer is empty afterwards in any case");
        c.is("after a formula", x.feed('a'), 1);
        x.addFormula();
        add(x, "~~~");
        c.is("after an error", x.feed('a'), 1);
        x.addFormula();
        x.addFormula();
        c.is("after an empty one", x.feed('a'), 1);
        x.addFormula();
        x.feed('b');
        c.is("the sixth one", x.addFormula(), 5);
        x.feed('b');
        c.is("FULL", x.addFormula(), FULL);
        c.is("after FULL", x.feed('a'), 1);
        c.of(19, "-100 minus the error position if the text has one");
        c.is("0", addAlone("~"), -100);
        c.is("1", addAlone("a~"), -101);
        c.is("0 of an empty text", addAlone(""), -100);
        c.is("50 of a text that ends too early", addAlone("((" + FIFTY.substring(1, 49)), -150);
        c.is("49", addAlone(FIFTY.substring(0, 49) + "~"), -149);
        c.is("nothing was added", sizeAfter("~"), 0);
        c.is("nothing was added", sizeAfter("!"), 0);
    }

    private static int sizeAfter(String text) {
        ProbabilisticChecker x = new ProbabilisticChecker();
        add(x, text);
        return x.formulaCount();
    }

    private void sixFormulas() {
        c.of(19, "Returns the number of the formula");
        ProbabilisticChecker x = new ProbabilisticChecker();
        for (int n = 0; n < 6; n++) {
            c.is("the next number", add(x, "t"), n);
        }
        c.of(19, "FULL if there are 6 formulas");
        c.is("a seventh one", add(x, "t"), FULL);
        c.is("a seventh one again", add(x, "!t"), FULL);
        c.is("an error comes first", add(x, "!"), -101);
        c.is("six", x.formulaCount(), 6);
        x.clearFormulas();
        c.is("there is room again", add(x, "t"), 0);
        c.of(20, "Returns the number of formulas");
        ProbabilisticChecker y = new ProbabilisticChecker();
        for (int n = 0; n < 6; n++) {
            c.is("so many", y.formulaCount(), n);
            add(y, "a");
        }
        c.is("all", y.formulaCount(), 6);
        add(y, "a");
        c.is("no more", y.formulaCount(), 6);
        y.clearFormulas();
        c.is("none again", y.formulaCount(), 0);
    }

    private void clearFormulas() {
        c.of(21, "Removes all formulas");
        ProbabilisticChecker x = ChainTest.withStates(1);
        for (int n = 0; n < 6; n++) {
            add(x, "t");
        }
        x.feed('!');
        x.clearFormulas();
        for (int n = 0; n < 6; n++) {
            c.is("it is gone", x.letter(n, 0), BAD);
            c.is("it is gone", x.holdsIn(n), BAD);
        }
        c.is("the buffer is not", x.feed('t'), 2);
        c.is("the numbers begin again", x.addFormula(), 0);
        c.is("it is the new one", x.holdsIn(0), 0);
        c.of(21, "Returns the number of formulas removed");
        c.is("one", x.clearFormulas(), 1);
        c.is("none", x.clearFormulas(), 0);
        c.is("none of a new one", new ProbabilisticChecker().clearFormulas(), 0);
        for (int n = 0; n < 7; n++) {
            add(x, "t");
        }
        c.is("six", x.clearFormulas(), 6);
    }

    private static ProbabilisticChecker three() {
        ProbabilisticChecker x = ChainTest.withStates(2);
        add(x, "a");
        add(x, "S<1[a]");
        add(x, "!!!!!t");
        return x;
    }

    private void letter() {
        c.of(22, "`i`: the position, from 0");
        ProbabilisticChecker x = three();
        String text = "S<1[a]";
        for (int i = 0; i < 6; i++) {
            c.is("position " + i, x.letter(1, i), text.charAt(i));
        }
        c.of(22, "NONE if there is no such position");
        int[] wrong = {-1, 6, 7, 49, 50, Integer.MIN_VALUE, Integer.MAX_VALUE};
        for (int i : wrong) {
            c.is("position " + i, x.letter(1, i), NONE);
        }
        c.is("behind one letter", x.letter(0, 1), NONE);
        c.of(22, "BAD if there is no such formula");
        for (int f : NO_FORMULAS) {
            c.is("formula " + f, x.letter(f, 0), BAD);
            c.is("formula and position", x.letter(f, -1), BAD);
        }
        c.is("none", new ProbabilisticChecker().letter(0, 0), BAD);
    }

    private void depth() {
        c.of(23, "Returns the greatest such number, 0 if there is none");
        String[] texts = {"t", "!!!!!a", "((((a&b)&b)&b)&b)", "P<1[Xa]", "!!!!S<1[a]", "S<1[S<1[S<1[S<1[S<1[t]]]]]",
            "P<1[XR<1[P<1[FS<1[P<1[Ga]]]]]", "(R<1[a]&S<1[b])", "(a&S<1[R<1[b]])", "(S<1[R<1[b]]&R<1[a])",
            "P<1[UR<1[a],S<1[!R<1[a]]]", "P<1[B0S<1[!R<1[a]],R<1[a]]", "P<1[Ua,b]", "R<1[!P<1[X!a]]"};
        int[] due = {0, 0, 0, 1, 1, 5, 5, 1, 2, 2, 3, 3, 1, 2};
        for (int i = 0; i < texts.length; i++) {
            ProbabilisticChecker x = new ProbabilisticChecker();
            c.is(texts[i] + " is one", add(x, texts[i]), 0);
            c.is(texts[i], x.depth(0), due[i]);
        }
        c.of(23, "BAD if there is no such formula");
        ProbabilisticChecker x = three();
        for (int f : NO_FORMULAS) {
            c.is("formula " + f, x.depth(f), BAD);
        }
        c.is("none", new ProbabilisticChecker().depth(0), BAD);
    }

    private void holdsIn() {
        ProbabilisticChecker x = three();
        c.of(24, "BAD if there is no such formula");
        for (int f : NO_FORMULAS) {
            c.is("formula " + f, x.holdsIn(f), BAD);
        }
        c.is("none", new ProbabilisticChecker().holdsIn(0), BAD);
        c.of(25, "BAD if there is no such formula or state");
        for (int f : NO_FORMULAS) {
            c.is("formula " + f, x.holds(f, 0), BAD);
            c.is("formula and state", x.holds(f, 2), BAD);
        }
        for (int s : ChainBoundaries.outside(2)) {
            c.is("state " + s, x.holds(0, s), BAD);
        }
        c.is("no states", zeroStates("t").holds(0, 0), BAD);
        c.of(24, "Returns the set of states");
        c.is("none of none", zeroStates("t").holdsIn(0), 0);
        c.is("none of none", zeroStates("!t").holdsIn(0), 0);
        c.is("none of none", zeroStates("!a").holdsIn(0), 0);
        c.is("none of none", zeroStates("P>=0[F!a]").holdsIn(0), 0);
        c.is("none of none", zeroStates("P>=0[G!a]").holdsIn(0), 0);
        c.is("none of none", zeroStates("P<=1[B6t,t]").holdsIn(0), 0);
        c.is("none of none", zeroStates("S<=1[!a]").holdsIn(0), 0);
        c.is("none of none", zeroStates("R<99[!a]").holdsIn(0), 0);
        c.is("none of none", zeroStates("!R<99[a]").holdsIn(0), 0);
        c.of(25, "Returns 1 if it does, 0 if not");
        ProbabilisticChecker y = ChainTest.withStates(8);
        y.setLabels(7, 8);
        add(y, "d");
        for (int s = 0; s < 8; s++) {
            c.is("state " + s, y.holds(0, s), s == 7 ? 1 : 0);
        }
    }

    private static ProbabilisticChecker zeroStates(String text) {
        ProbabilisticChecker x = new ProbabilisticChecker();
        add(x, text);
        return x;
    }
}
