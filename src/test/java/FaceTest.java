import java.io.IOException;
import java.lang.reflect.Field;
import java.lang.reflect.Method;
import java.lang.reflect.Modifier;
import java.nio.file.Files;
import java.nio.file.Path;
import java.util.Arrays;
import java.util.TreeSet;
import java.util.Set;
import java.util.regex.Matcher;
import java.util.regex.Pattern;

/** The constants, the public face as the document has it, and the rules of LANGUAGE.md that a text search can see. */
public final class FaceTest {
    private static final Due DUE = new Due("FaceTest");
    private static final Path SOURCE = Path.of("src", "main", "java", "ProbabilisticChecker.java");
    private static final String[] FACE = {
        "int addState()", "int removeState()", "int stateCount()", "int setWeight(int,int,int)", "int weight(int,int)",
        "int sum(int)", "int setLabels(int,int)", "int labels(int)", "int setReward(int,int)", "int reward(int)",
        "int reaches(int)", "int component(int)", "int bottoms()", "int classCount()", "int classOf(int)",
        "long lumped(int,int,int)", "int feed(int)", "int addFormula()", "int formulaCount()", "int clearFormulas()",
        "int letter(int,int)", "int depth(int)", "int holdsIn(int)", "int holds(int,int)", "long next(int,int,int)",
        "long until(int,int,int,int)", "long within(int,int,int,int,int)", "int never(int,int)", "int surely(int,int)",
        "long steady(int,int,int)", "long share(int,int)", "long expected(int,int,int)",
        "int bestPath(int,int,int,int)", "long bestProduct(int,int,int,int)", "int walk(int,int,int)", "int save()",
        "int restore()", "int undo()"};
    private static final String[] NOT_ALLOWED = {"throw", "try", "catch", "synchronized", "assert", "import", "package",
        "->", "::", "protected", "instanceof", "Exact", "System.", "equals", "hashCode", "static {"};
    /** A method up to the brace that stands as far in as its head: indentation, visibility, static, name, body. */
    private static final Pattern METHOD = Pattern.compile("(?ms)^( {4}| {8})(public |private )?(static )?(?:final )?"
            + "\\w+(?:\\[\\])? (\\w+)\\([^)]*\\) \\{\n(.*?)^\\1\\}$");

    public static void main(String[] args) throws IOException {
        constants();
        publicFace();
        nothingElse();
        words();
        methods();
        DUE.end();
    }

    private static void constants() {
        DUE.is("BAD", ProbabilisticChecker.BAD, -1);
        DUE.is("NONE", ProbabilisticChecker.NONE, -2);
        DUE.is("FULL", ProbabilisticChecker.FULL, -3);
        DUE.is("REFUSED", ProbabilisticChecker.REFUSED, -4);
        DUE.is("INFINITE", ProbabilisticChecker.INFINITE, -5);
    }

    private static void publicFace() {
        Class<?> c = ProbabilisticChecker.class;
        DUE.holds("public and final", Modifier.isPublic(c.getModifiers()) && Modifier.isFinal(c.getModifiers()));
        DUE.is("public constructors", c.getConstructors().length, 1);
        DUE.is("its parameters", c.getConstructors()[0].getParameterCount(), 0);
        Set<String> got = new TreeSet<>();
        for (Method m : c.getDeclaredMethods()) {
            if (Modifier.isPublic(m.getModifiers())) {
                StringBuilder text = new StringBuilder(m.getReturnType() + " " + m.getName() + "(");
                for (int i = 0; i < m.getParameterCount(); i++) {
                    text.append(i > 0 ? "," : "").append(m.getParameterTypes()[i]);
                }
                got.add(text.append(")").toString());
            }
        }
        DUE.holds("the methods of the document: " + got, got.equals(new TreeSet<>(Arrays.asList(FACE))));
    }

    private static void nothingElse() {
        Class<?> c = ProbabilisticChecker.class;
        Set<String> names = new TreeSet<>();
        for (Method m : c.getDeclaredMethods()) {
            if (Modifier.isPublic(m.getModifiers())) {
                names.add(m.getName());
            }
        }
        for (Method m : c.getDeclaredMethods()) {
            if (!Modifier.isPublic(m.getModifiers())) {
                DUE.holds("private: " + m, Modifier.isPrivate(m.getModifiers()));
                DUE.holds("has no public name: " + m, !names.contains(m.getName()));
            }
        }
        for (Field f : c.getDeclaredFields()) {
            boolean isConstant = Modifier.isPublic(f.getModifiers()) && f.getType() == int.class;
            DUE.holds("private, or a constant: " + f, isConstant || Modifier.isPrivate(f.getModifiers()));
            DUE.holds("static fields are final: " + f,
                    !Modifier.isStatic(f.getModifiers()) || Modifier.isFinal(f.getModifiers()));
        }
        int classes = 1;
        for (Class<?> inner : c.getDeclaredClasses()) {
            classes++;
            DUE.holds("static: " + inner, Modifier.isStatic(inner.getModifiers()));
            DUE.holds("at most twenty fields: " + inner, inner.getDeclaredFields().length <= 20);
            for (Method m : inner.getDeclaredMethods()) {
                DUE.holds("at most seven parameters: " + m, m.getParameterCount() <= 7);
            }
        }
        DUE.holds("at most twelve classes", classes <= 12);
    }

    private static void words() throws IOException {
        String source = Files.readString(SOURCE);
        String code = withoutComments(source);
        for (String word : NOT_ALLOWED) {
            DUE.is("the code has " + word, code.indexOf(word), -1);
        }
        for (int i = 0; i < source.length(); i++) {
            if (source.charAt(i) > 126) {
                DUE.is("a sign beyond 126 at " + i, source.charAt(i), 0);
            }
        }
    }

    /** Rules 8 and 11: a method that calls itself is private and static, and methods are short. */
    private static void methods() throws IOException {
        Matcher heads = METHOD.matcher(withoutComments(Files.readString(SOURCE)));
        int found = 0;
        while (heads.find()) {
            found++;
            String body = heads.group(5);
            String name = heads.group(4);
            boolean callsItself = Pattern.compile("(?<![.\\w])" + name + "\\(").matcher(body).find();
            DUE.holds("a method that calls itself is private and static: " + name,
                    !callsItself || "private ".equals(heads.group(2)) && "static ".equals(heads.group(3)));
            DUE.holds("at most sixty lines: " + name, body.lines().count() <= 60);
        }
        DUE.holds("methods found: " + found, found > FACE.length);
    }

    private static String withoutComments(String source) {
        return source.replaceAll("(?s)/\\*.*?\\*/", "").replaceAll("//[^\n]*", "");
    }
}
