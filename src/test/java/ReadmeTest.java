import java.lang.reflect.Method;
import java.nio.file.Files;
import java.nio.file.Path;
import java.util.Arrays;
import java.util.regex.Matcher;
import java.util.regex.Pattern;

/** The calls that README.md shows answer what it says behind them, and it names every test. */
public final class ReadmeTest {
    private static final Pattern CALL = Pattern.compile("^(?:int p = )?x\\.(\\w+)\\(([^)]*)\\);\\s*(?:// \\D*?(-?\\d+).*)?$");
    private static int wrong, shown;

    private static void hold(boolean is, String what) {
        if (is) return;
        wrong++;
        System.out.println("not held: " + what);
    }

    public static void main(String[] args) throws Exception {
        String readme = Files.readString(Path.of("README.md"));
        BridgePairs x = new BridgePairs();
        for (String line : readme.split("\n")) {
            Matcher fed = Pattern.compile("for \\(char sign : \"(.*)\"\\.toCharArray.*").matcher(line);
            if (fed.matches()) for (char sign : fed.group(1).toCharArray()) x.feed(sign);
            Matcher call = CALL.matcher(line);
            if (call.matches() && !call.group(1).equals("feed")) answer(x, call);
        }
        hold(shown == 13, "13 calls are shown, not " + shown);
        try (var files = Files.list(Path.of("src/test/java"))) {
            files.map(f -> f.getFileName().toString()).filter(f -> f.endsWith("Test.java"))
                .forEach(f -> hold(readme.contains("`" + f.replace(".java", "") + "`"), "README.md names " + f));
        }
        System.out.println(wrong == 0 ? "README.md is right" : wrong + " lines of README.md are not right");
        if (wrong != 0) System.exit(1);
    }

    private static void answer(BridgePairs x, Matcher call) throws Exception {
        String[] words = call.group(2).isEmpty() ? new String[0] : call.group(2).split(", ");
        Object[] numbers = new Object[words.length];
        // The person p of README.md is number 0.
        for (int i = 0; i < words.length; i++) numbers[i] = words[i].equals("p") ? 0 : Integer.parseInt(words[i]);
        Class<?>[] types = new Class<?>[words.length];
        Arrays.fill(types, int.class);
        Method method = BridgePairs.class.getMethod(call.group(1), types);
        long got = ((Number) method.invoke(x, numbers)).longValue();
        hold(call.group(3) != null && Long.parseLong(call.group(3)) == got, call.group() + " answers " + got);
        shown++;
    }
}
