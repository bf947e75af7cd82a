import java.lang.reflect.Method;
import java.util.ArrayList;
import java.util.Arrays;
import java.util.List;
import java.util.Random;
import java.util.TreeMap;

/** Runs of calls drawn from fixed seeds, on BridgePairs and on the Oracle; all answers must be alike. */
public final class OracleTest {
    private static final String[] FACE = {
        "bridge q q", "one kind v q", "of p what:18", "of p what:18", "of p reach", "span b what:4", "errand p q-",
        "errand p q-", "cross p b", "cross p b", "cross p b", "lose b bool", "swap b b", "row p what:4 v",
        "told what:5", "pass few", "on what:13 on", "on what:13 on", "way p q k", "way p q k", "sisters p q",
        "see p- what:9 q", "see p- few q", "see p- few q", "from p", "can p what:2", "odds p q what:2", "mean what:2", "plan plan pb",
        "plan plan pb", "ends what:2", "book p- q", "looked", "judge tape few", "image", "undo",
        "act p what:3 x", "trace what:21", "taken p kind", "count what:8", "tape tape sort size",
        "item tape few long", "read tape few", "shift tape few tape few few"};

    private final Random random;
    /** Few quarters make many ways. */
    private final int quarters;
    private final BridgePairs x = new BridgePairs();
    private final Oracle oracle = new Oracle();
    private final List<String> calls = new ArrayList<>();
    private static final TreeMap<String, TreeMap<Long, Integer>> ANSWERS = new TreeMap<>();
    private static int wrong;

    private OracleTest(long seed) {
        random = new Random(seed);
        quarters = 2 + random.nextInt(5);
    }

    public static void main(String[] args) throws Exception {
        int runs = args.length > 0 ? Integer.parseInt(args[0]) : 120;
        for (int seed = 0; seed < runs && wrong == 0; seed++) new OracleTest(seed).run();
        if (args.length > 1) {
            ANSWERS.forEach((name, answers) -> System.out.println(name + " " + answers));
        }
        System.out.println(wrong == 0 ? runs + " runs are alike" : "an answer is not alike");
        if (wrong != 0) System.exit(1);
    }

    private void run() throws Exception {
        int bridges = random.nextInt(10), people = random.nextInt(8);
        for (int i = 0; i < bridges; i++) both("bridge", random.nextInt(quarters), random.nextInt(quarters));
        for (int i = 0; i < people; i++) both("one", random.nextInt(7), random.nextInt(10), random.nextInt(quarters));
        for (int i = 0; i < people; i++) both("errand", i, random.nextInt(quarters));
        int most = 60 + random.nextInt(200);
        for (int i = 0; i < most && wrong == 0; i++) {
            if (random.nextInt(oracle.count(2) < 6 ? 30 : 300) == 0) feedCity();
            else if (random.nextInt(30) == 0) crossAlong();
            else if (random.nextInt(30) == 0) judgeRight();
            else if (random.nextInt(15) == 0) seeRight();
            else if (random.nextInt(40) == 0) planRight();
            else if (random.nextInt(40) == 0) askAll();
            else if (random.nextInt(40) == 0) actAll();
            else drawnCall();
        }
    }

    private void askAll() throws Exception {
        if (oracle.count(0) == 0) return;
        int p = random.nextInt(oracle.count(0));
        for (int what = 0; what < 18; what++) both("of", p, what);
        for (int q = 0; q < 6; q++) {
            both("sisters", p, q);
            both("odds", p, q, 0);
            both("odds", p, q, 1);
            for (int k = -1; k < 12; k++) both("way", p, q, k);
        }
        for (int n = 0; n < 13; n += 1 + random.nextInt(4)) {
            for (int what = 0; what < 40; what += 10) both("on", n, what == 0 ? 0 : what + p);
        }
        both("told", 2);
        both("told", 3);
    }

    private void planRight() throws Exception {
        both("plan", -1, 7);
        int rows = random.nextInt(9);
        for (int i = 0; i < rows; i++) {
            both("plan", random.nextBoolean() ? 0 : random.nextInt(4), random.nextInt(Math.max(oracle.count(0), oracle.count(1)) + 1));
        }
        both("ends", 0);
        both("ends", 1);
    }

    private void actAll() throws Exception {
        for (int p = 0; p < oracle.count(0); p++) {
            both("act", p, random.nextInt(3), random.nextInt(50) - 25);
            for (int i = 0; i < 13; i++) both("trace", i);
            both("count", 7);
        }
    }

    /** Goes where one may, so that much gets half. */
    private void crossAlong() throws Exception {
        int people = oracle.count(0);
        for (int p = 0; p < people; p++) {
            for (int b = 0; b < oracle.count(1); b++) {
                if ((oracle.of(p, 8) >> b & 1) == 1 && random.nextInt(4) == 0) both("cross", p, b);
            }
        }
    }

    private void judgeRight() throws Exception {
        int at = random.nextInt(4);
        both("tape", 0, 1, at + random.nextInt(8));
        for (int p = 0; p < oracle.count(0); p++) {
            both("item", 0, at + p, random.nextInt(12) == 0 ? 77L : (long) oracle.of(p, 5));
        }
        both("judge", 0, at);
    }

    /** Sees what will be so for one, or nearly. */
    private void seeRight() throws Exception {
        if (oracle.count(0) == 0) return;
        int p = random.nextInt(oracle.count(0));
        both("see", -1, 0, 0);
        if (random.nextInt(3) > 0) both("errand", p, random.nextInt(quarters));
        int rows = 1 + random.nextInt(3);
        for (int i = 0; i < rows; i++) {
            int n = random.nextInt(9);
            both("see", p, n, random.nextInt(9) == 0 ? random.nextInt(quarters) : oracle.on(n, 10 + p));
        }
        both("from", p);
        both("can", p, 0);
        both("can", p, 1);
    }

    private void drawnCall() throws Exception {
        String[] parts = FACE[random.nextInt(FACE.length)].split(" ");
        Object[] args = new Object[parts.length - 1];
        for (int i = 0; i < args.length; i++) args[i] = draw(parts[i + 1]);
        both(parts[0], args);
    }

    private Object draw(String sort) {
        if (sort.equals("bool")) return random.nextBoolean();
        if (sort.equals("long")) return random.nextBoolean() ? random.nextLong() : (long) random.nextInt(3);
        if (sort.equals("x")) return random.nextBoolean() ? random.nextInt() : random.nextInt(20);
        if (random.nextInt(60) == 0) {
            int[] odd = {Integer.MIN_VALUE, Integer.MAX_VALUE, -1, -2, 100, 1000, Integer.MAX_VALUE - 3};
            return odd[random.nextInt(odd.length)];
        }
        if (sort.startsWith("what:")) return random.nextInt(Integer.parseInt(sort.substring(5)) + 1);
        return switch (sort) {
            case "q" -> random.nextInt(25) == 0 ? 6 : random.nextInt(random.nextInt(9) == 0 ? 6 : quarters);
            case "q-" -> random.nextInt(7) - 1;
            case "p" -> random.nextInt(10) == 0 ? 6 : random.nextInt(Math.max(1, oracle.count(0)));
            case "p-" -> random.nextInt(Math.max(1, oracle.count(0)) + 1) - (random.nextInt(8) == 0 ? 1 : 0);
            case "b" -> random.nextInt(Math.max(1, oracle.count(1)) + 1);
            case "pb" -> random.nextInt(9);
            case "kind" -> random.nextInt(8);
            case "v" -> random.nextInt(11);
            case "k" -> random.nextInt(8) == 0 ? random.nextInt(15) - 2 : random.nextInt(5) - 1;
            case "few" -> random.nextInt(6) - (random.nextInt(10) == 0 ? 2 : 0);
            case "reach" -> 6 + random.nextInt(3);
            case "on" -> random.nextInt(5) == 0 ? random.nextInt(41) : random.nextInt(4) * 10 + random.nextInt(Math.max(1, oracle.count(0)));
            case "plan" -> random.nextInt(15) == 0 ? -1 : random.nextInt(10) == 0 ? 4 : random.nextInt(3) == 0 ? 0 : random.nextInt(4);
            case "tape" -> random.nextInt(15) == 0 ? 6 : random.nextInt(6);
            case "sort" -> random.nextInt(15) == 0 ? 5 : random.nextInt(6) - 1;
            case "size" -> random.nextInt(5) == 0 ? random.nextInt(80) - 10 : random.nextInt(6);
            default -> throw new IllegalStateException(sort);
        };
    }

    private void feedCity() throws Exception {
        StringBuilder s = new StringBuilder();
        int clauses = 1 + random.nextInt(random.nextInt(6) == 0 ? 12 : 4);
        for (int i = 0; i < clauses; i++) {
            if (i > 0) s.append(';');
            int which = random.nextInt(6);
            if (which == 0 || clauses > 6) s.append("dark ").append(random.nextInt(random.nextInt(6) == 0 ? 100 : 7));
            else s.append(which < 4 ? "grant " : "bar ").append(random.nextInt(random.nextInt(4) == 0 ? 100 : 6)).append(' ').append(expression(0));
        }
        int changes = random.nextInt(3) == 0 ? 1 + random.nextInt(2) : 0;
        for (int i = 0; i < changes && s.length() > 0; i++) {
            int at = random.nextInt(s.length());
            char sign = "grantbdk 0123456789;()!&|<=>pkvnh.".charAt(random.nextInt(34));
            switch (random.nextInt(4)) {
                case 0 -> s.setCharAt(at, sign);
                case 1 -> s.deleteCharAt(at);
                case 2 -> s.insert(at, sign);
                default -> s.setLength(at);
            }
        }
        if (s.length() > 100 && random.nextInt(4) > 0) return;
        for (int i = 0; i < s.length(); i++) both("feed", (int) s.charAt(i));
        both("city");
        both("told", 1);
    }

    private String expression(int depth) {
        StringBuilder s = new StringBuilder(factor(depth));
        while (random.nextInt(3) == 0) s.append(random.nextBoolean() ? '&' : '|').append(factor(depth));
        return s.toString();
    }

    private String factor(int depth) {
        int which = random.nextInt(depth > 3 ? 30 : 5);
        if (which == 0) return "!" + factor(depth + 1);
        if (which == 1) return "(" + expression(depth + 1) + ")";
        return "" + "pkvbnh".charAt(random.nextInt(6)) + "<=>".charAt(random.nextInt(3)) + random.nextInt(random.nextInt(9) == 0 ? 100 : 8);
    }

    private void both(String name, Object... args) throws Exception {
        if (wrong > 0) return;
        Class<?>[] types = new Class<?>[args.length];
        for (int i = 0; i < args.length; i++) {
            types[i] = args[i] instanceof Boolean ? boolean.class : args[i] instanceof Long ? long.class : int.class;
        }
        Method mine = BridgePairs.class.getMethod(name, types), theirs = Oracle.class.getMethod(name, types);
        String call = name + Arrays.toString(args);
        calls.add(call);
        long due = ((Number) theirs.invoke(oracle, args)).longValue();
        long got = ((Number) mine.invoke(x, args)).longValue();
        ANSWERS.computeIfAbsent(name, n -> new TreeMap<>()).merge(due, 1, Integer::sum);
        if (got != due) {
            wrong++;
            calls.forEach(System.out::println);
            System.out.println("answered " + got + ", the oracle " + due);
        }
    }
}
