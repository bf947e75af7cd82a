import java.lang.reflect.InvocationTargetException;
import java.lang.reflect.Method;
import java.lang.reflect.Modifier;

/** What the tests of single sentences share: they run each test, and tell the sentence that is broken. */
abstract class Bounds {
    static final int NONE = -1, BAD = -2, STATE = -3, FULL = -4, NOT_ANY = -5;
    static final int NO_SUCH = -10001, NOTHING = -11, CAST = -12, PLACE = -13, SIZE = -14;
    static final long NO = Long.MIN_VALUE;
    static final int LEAST = Integer.MIN_VALUE, MOST = Integer.MAX_VALUE;
    private static String test = "", sentence = "";
    private static int wrong, asked;

    /** Runs every test of a class: its functions without parameters that aren't private. */
    static void runAll(Class<?> tests) throws Exception {
        int ran = 0;
        for (Method m : tests.getDeclaredMethods()) {
            if (m.getParameterCount() > 0 || Modifier.isPrivate(m.getModifiers()) || m.isSynthetic()) continue;
            test = m.getName();
            sentence = "";
            asked = 0;
            ran++;
            try {
                m.invoke(null);
            } catch (InvocationTargetException e) {
                wrong++;
                System.out.println(test + " (" + sentence + ") threw " + e.getCause());
            }
            if (asked == 0) {
                wrong++;
                System.out.println(test + " looks at nothing");
            }
        }
        System.out.println(wrong == 0 ? ran + " sentences hold" : wrong + " answers are not as due");
        if (wrong != 0) System.exit(1);
    }

    /** The sentence of the document that the calls of due() behind it look at. */
    static void says(String words) { sentence = words; }

    static void due(long got, long want) {
        asked++;
        if (got == want) return;
        wrong++;
        System.out.println(test + " (" + sentence + ") answered " + got + ", due is " + want);
    }

    static void dueText(String got, String want) {
        asked++;
        if (got.equals(want)) return;
        wrong++;
        System.out.println(test + " (" + sentence + ")\n  is  " + got + "\n  was " + want);
    }

    // ---- worlds to start from

    /** An object with bridges, by their ends two by two. */
    static BridgePairs bridges(int... ends) {
        BridgePairs x = new BridgePairs();
        for (int i = 0; i < ends.length; i += 2) x.bridge(ends[i], ends[i + 1]);
        return x;
    }

    /** A road 0 - 1 - 2 - 3 - 4; its bridges 0 and 1, 2 and 3 are sisters. */
    static BridgePairs road() { return bridges(0, 1, 1, 2, 2, 3, 3, 4); }

    /** The road with one of a kind at its begin. */
    static BridgePairs roadWith(int kind, int v) {
        BridgePairs x = road();
        x.one(kind, v, 0);
        return x;
    }

    /** Eight bridges between 0 and 1, 0 and 1 sisters and so on, and one of a kind at 0. */
    static BridgePairs fanWith(int kind, int v) {
        BridgePairs x = bridges(0, 1, 0, 1, 0, 1, 0, 1, 0, 1, 0, 1, 0, 1, 0, 1);
        x.one(kind, v, 0);
        return x;
    }

    static void feed(BridgePairs x, String text) {
        for (int i = 0; i < text.length(); i++) x.feed(text.charAt(i));
    }

    static int city(BridgePairs x, String text) {
        feed(x, text);
        return x.city();
    }

    /** What a new object answers to a text as its city. */
    static int city(String text) { return city(new BridgePairs(), text); }

    /** A text is a city. */
    static void stands(String text) { due(city(text), 0); }

    /** A text has its fault at a place. */
    static void fault(String text, int place) { due(city(text), -10 - place); }

    /** A text ends too early. */
    static void endsEarly(String text) { fault(text, text.length()); }

    static int leave(BridgePairs x, int person, int bridge) { return x.of(person, 10 + bridge); }
}
