import java.nio.file.Files;
import java.nio.file.Path;
import java.util.LinkedHashSet;
import java.util.List;
import java.util.Set;
import java.util.regex.Matcher;
import java.util.regex.Pattern;

/** The program keeps to LANGUAGE.md and to the document's face; and the look at it sees what breaks a rule. */
public final class LanguageTest {
    private static int wrong;

    private static void hold(boolean is, String what) {
        if (is) return;
        wrong++;
        System.out.println("not held: " + what);
    }

    public static void main(String[] args) throws Exception {
        String source = Files.readString(Path.of("src/main/java/BridgePairs.java"));
        Language program = new Language(source);
        for (String fault : program.faults()) hold(false, "rule " + fault);
        hold(source.chars().allMatch(c -> c < 128), "signs below 128");
        hold(program.deepest == 7, "calls go seven deep, not " + program.deepest);
        face(program, Files.readString(Path.of("../shared/DOC.md")));
        breaches();
        System.out.println(wrong == 0 ? "the language is kept" : wrong + " rules are not kept");
        if (wrong != 0) System.exit(1);
    }

    /** The face as the document writes it, types and names too. */
    private static void face(Language program, String document) {
        String block = document.substring(document.indexOf("```java"), document.indexOf("## Terms"));
        Set<String> methods = new LinkedHashSet<>(), constants = new LinkedHashSet<>();
        Matcher m = Pattern.compile("public (int|long) (\\w+\\(.*\\));").matcher(block);
        while (m.find()) methods.add(m.group(1) + " " + m.group(2));
        Matcher c = Pattern.compile("public static final (int|long) (.*);").matcher(block);
        while (c.find()) for (String one : c.group(2).split(", ")) constants.add(c.group(1) + " " + one);
        hold(methods.size() == 36, "the document has 36 calls, not " + methods.size());
        hold(program.publicMethods.equals(methods), "the face is " + program.publicMethods);
        hold(program.publicConstants.equals(constants), "the constants are " + program.publicConstants);
        hold(BridgePairs.class.getConstructors().length == 1 && BridgePairs.class.getDeclaredConstructors().length == 1
            && BridgePairs.class.getConstructors()[0].getParameterCount() == 0, "one constructor without parameters");
    }

    /** Sources that break one rule each. */
    private static void breaches() throws Exception {
        breaks(0, "");
        breaks(1, "int seen;");
        breaks(1, "int help() { return 0; }");
        breaks(1, "public int go() { return 0; } private int go(int n) { return n; }");
        breaks(1, "public static final class A { }");
        breaks(2, "private final class A { }");
        breaks(2, "public int go() { class A { } return 0; }");
        breaks(2, "public int go() { Runnable r = () -> { }; return 0; }");
        breaks(2, "private interface F { int f(int n); } private final F f = Math::abs;");
        breaks(3, "private Object o;");
        breaks(3, "private String[][] rows;");
        breaks(3, "public int go() { return 1.5 > 1 ? 1 : 0; }");
        breaks(4, "public int go() { return Math.addExact(1, 2); }");
        breaks(4, "public int go() { System.out.println(); return 0; }");
        breaks(4, "private final String s = \"\u00e9\";");
        breaks(5, "private static int n;");
        breaks(5, "private static final int[] N = new int[3];");
        breaks(5, "private static final int[] N = {1}; public int go() { N[0] = 2; return 0; }");
        breaks(5, "private static final int[] N = {1}; public int go() { return N[0]++; }");
        breaks(5, "private static final int N; static { N = 1; }");
        breaks(6, "public int go() { throw new IllegalStateException(); }");
        breaks(6, "public int go() { try { return 1; } finally { } }");
        breaks(6, "public boolean go(String a, String b) { return a == b; }");
        breaks(6, "public String toString() { return \"\"; }");
        breaks(6, "private static final class A { } public int go(Object o) { A a = (A) o; return 0; }");
        breaks(7, "public int go(int n) { return 1 / n; }");
        breaks(7, "private static final int N = 0; public int go(int n) { return n % N; }");
        breaks(7, "public int go(int n) { int d = n; d /= n; return d; }");
        breaks(8, "private int down(int n) { return n == 0 ? 0 : down(n - 1); }");
        breaks(8, "public int go(int depth) { return depth == 0 ? 0 : go(depth - 1); }");
        breaks(9, "public int go() { while (true) { } }");
        breaks(9, "public int go() { for (;;) { } }");
        breaks(10, "public String go(int n) { return \"a\" + n; }");
        breaks(11, "public int go(int a, int b, int c, int d, int e, int f, int g, int h) { return 0; }");
        breaks(11, "public int go() { int n = 0;\n" + "n++;\n".repeat(60) + "return n; }");
        StringBuilder classes = new StringBuilder(), fields = new StringBuilder(), deep = new StringBuilder();
        for (int i = 0; i < 12; i++) classes.append("private static final class A").append(i).append(" { }");
        for (int i = 0; i < 21; i++) fields.append("private int a").append(i).append(';');
        for (int i = 0; i < 8; i++) deep.append("private int a").append(i).append("() { return a").append(i + 1).append("(); }");
        breaks(11, classes.toString());
        breaks(11, fields.toString());
        breaks(11, deep + "private int a8() { return 0; }");
        breaks(12, "private static final class A { } public int go() { A a = new A(); return 0; }");
        breaks(12, "public int go() { int[] n = new int[3]; return n[0]; }");
        hold(!new Language("package a; public final class BridgePairs { }").faults().isEmpty(), "a package line is seen");
        hold(!new Language("public class BridgePairs { }").faults().isEmpty(), "a class that isn't final is seen");
        hold(!new Language("public final class BridgePairs { int }").faults().isEmpty(), "what doesn't compile is seen");
    }

    /** Rule 0: no rule is broken. */
    private static void breaks(int rule, String members) throws Exception {
        List<String> faults = new Language("public final class BridgePairs {\n" + members + "\n}").faults();
        boolean isSeen = faults.stream().anyMatch(fault -> fault.startsWith(rule + " "));
        hold(rule == 0 ? faults.isEmpty() : isSeen, "rule " + rule + " with " + members + ": " + faults);
    }
}
