import java.lang.reflect.Member;
import java.lang.reflect.Method;
import java.lang.reflect.Modifier;
import java.nio.file.Files;
import java.nio.file.Path;
import java.util.ArrayList;
import java.util.HashSet;
import java.util.List;
import java.util.Set;
import java.util.TreeSet;
import java.util.regex.Matcher;
import java.util.regex.Pattern;

/** The rules of LANGUAGE.md that a look at the source and at the class can hold. */
public final class LanguageTest {
    private static final String FACE = "bridge/2 one/3 of/2 span/2 errand/2 cross/2 lose/2 swap/2 row/3 feed/1 city/0 told/1 "
        + "pass/1 on/2 way/3 sisters/2 see/3 from/1 can/2 odds/3 mean/1 plan/2 ends/1 book/2 looked/0 judge/2 image/0 "
        + "undo/0 act/3 trace/1 taken/2 count/1 tape/3 item/3 read/2 shift/5";
    private static final String[] BANNED = {"\\bthrow\\b", "\\bthrows\\b", "\\btry\\b", "\\bcatch\\b", "\\bsynchronized\\b",
        "\\bassert\\b", "->", "::", "\\bequals\\b", "\\bhashCode\\b", "\\btoString\\b", "\\bdouble\\b", "\\bfloat\\b",
        "\\bthis\\b", "\\bprotected\\b", "\\bSystem\\.(?!arraycopy)", "\\bwhile\\b", "\\bnew [a-z]+\\[[a-z]+\\(",
        "\\bjava\\.(?!util\\.Arrays;)"};
    private static int wrong;

    private static void hold(boolean is, String what) {
        if (!is) {
            wrong++;
            System.out.println("not held: " + what);
        }
    }

    public static void main(String[] args) throws Exception {
        String source = Files.readString(Path.of("src/main/java/BridgePairs.java"));
        for (int i = 0; i < source.length(); i++) hold(source.charAt(i) < 128, "sign " + i);
        String code = source.replaceAll("(?s)/\\*.*?\\*/", "").replaceAll("//[^\n]*", "");
        for (String banned : BANNED) {
            Matcher m = Pattern.compile(banned).matcher(code);
            hold(!m.find(), "no " + banned);
        }
        Set<String> publicNames = face();
        nested(publicNames);
        lengths(source);
        System.out.println(wrong == 0 ? "the language is kept" : wrong + " rules are not kept");
        if (wrong != 0) System.exit(1);
    }

    private static Set<String> face() {
        Set<String> face = new TreeSet<>(), names = new HashSet<>();
        for (Method m : BridgePairs.class.getDeclaredMethods()) {
            boolean isPublic = Modifier.isPublic(m.getModifiers());
            hold(isPublic || Modifier.isPrivate(m.getModifiers()), "public or private: " + m);
            hold(m.getParameterCount() <= 7, "parameters: " + m);
            if (isPublic) {
                face.add(m.getName() + "/" + m.getParameterCount());
                names.add(m.getName());
            }
        }
        for (Method m : BridgePairs.class.getDeclaredMethods()) {
            hold(Modifier.isPublic(m.getModifiers()) || !names.contains(m.getName()), "another name: " + m);
        }
        hold(face.equals(new TreeSet<>(List.of(FACE.split(" ")))), "the face is " + face);
        Set<String> constants = new TreeSet<>();
        for (var f : BridgePairs.class.getDeclaredFields()) {
            if (Modifier.isPublic(f.getModifiers())) constants.add(f.getName());
            else hold(Modifier.isPrivate(f.getModifiers()), "public or private: " + f);
        }
        hold(constants.toString().equals("[BAD, FULL, NO, NONE, STATE]"), "constants: " + constants);
        hold(Modifier.isFinal(BridgePairs.class.getModifiers()), "final");
        return names;
    }

    private static void nested(Set<String> publicNames) {
        Class<?>[] inside = BridgePairs.class.getDeclaredClasses();
        hold(inside.length <= 11, "some twelve classes");
        List<Class<?>> all = new ArrayList<>(List.of(inside));
        all.add(BridgePairs.class);
        for (Class<?> c : all) {
            hold(c == BridgePairs.class || Modifier.isStatic(c.getModifiers()), "static: " + c);
            int fields = 0;
            for (var f : c.getDeclaredFields()) {
                if (!Modifier.isStatic(f.getModifiers())) fields++;
                else hold(Modifier.isFinal(f.getModifiers()), "final: " + f);
            }
            hold(fields <= 20, "fields of " + c);
            if (c == BridgePairs.class) continue;
            for (Member m : c.getDeclaredMethods()) hold(!publicNames.contains(m.getName()), "another name: " + m);
        }
    }

    private static void lengths(String source) {
        String[] lines = source.split("\n");
        int start = -1;
        for (int i = 0; i < lines.length; i++) {
            if (lines[i].matches("( {4}| {8})[a-zA-Z].*\\) \\{")) start = i;
            if (start >= 0 && lines[i].matches("( {4}| {8})}") && lines[i].indexOf('}') == indent(lines[start])) {
                hold(i - start < 60, "a short method: " + lines[start].trim());
                start = -1;
            }
        }
    }

    private static int indent(String line) {
        int i = 0;
        while (line.charAt(i) == ' ') i++;
        return i;
    }
}
