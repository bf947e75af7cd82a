import java.lang.management.ManagementFactory;
import java.lang.reflect.Array;
import java.lang.reflect.Field;
import java.lang.reflect.Modifier;
import java.util.ArrayList;
import java.util.IdentityHashMap;
import java.util.List;
import java.util.Map;

/** The room that an object takes: the constructor makes all of it, calls make nothing. */
public final class RoomTest {
    private static final int MOST_OBJECTS = 200, MOST_ELEMENTS = 10_000, CALLS = 512;
    /** The machine may put a little aside itself; one small object a round would already be more than this. */
    private static final long SLACK = 4_096;
    private static int wrong;
    private static long sum;

    private static void hold(boolean is, String what) {
        if (is) return;
        wrong++;
        System.out.println("not held: " + what);
    }

    public static void main(String[] args) throws Exception {
        BridgePairs x = dear();
        long[] fresh = size(new BridgePairs()), used = size(x);
        hold(fresh[0] <= MOST_OBJECTS && fresh[1] <= MOST_ELEMENTS, "objects, elements: " + fresh[0] + ", " + fresh[1]);
        askAll(x, 3);
        hold(used[0] == fresh[0] && used[1] == fresh[1], "calls keep nothing more: " + used[0] + ", " + used[1]);
        var threads = (com.sun.management.ThreadMXBean) ManagementFactory.getThreadMXBean();
        long id = Thread.currentThread().getId();
        threads.getThreadAllocatedBytes(id);
        long before = threads.getThreadAllocatedBytes(id);
        askAll(x, CALLS);
        long made = threads.getThreadAllocatedBytes(id) - before;
        hold(made <= SLACK, "all calls, " + CALLS + " times over, made " + made + " bytes");
        System.out.println(wrong == 0 ? "all has room" : wrong + " sizes are not as due");
        if (wrong != 0) System.exit(1);
    }

    /** An object on which calls are dear: eight bridges, six people who look for ways in vain. */
    private static BridgePairs dear() {
        BridgePairs x = new BridgePairs();
        for (int b = 0; b < 8; b++) x.bridge(b % 4, (b + 1) % 4);
        for (int p = 0; p < 6; p++) x.one(p, 9, p % 4);
        for (int p = 0; p < 6; p++) x.errand(p, 5);
        String city = "grant 9 p<9&!(k=7|v=1)|b>8;grant 9 n<9;bar 2 h=3&(n>2|b=7);dark 1";
        for (int i = 0; i < city.length(); i++) x.feed(city.charAt(i));
        x.city();
        for (int i = 0; i < 5; i++) x.see(i, 8, i % 4);
        for (int i = 0; i < 8; i++) x.plan(0, 0);
        for (int i = 0; i < 8; i++) x.book(0, 0);
        for (int t = 0; t < 6; t++) x.tape(t, 1, 60);
        x.image();
        return x;
    }

    private static void askAll(BridgePairs x, int times) {
        for (int i = 0; i < times; i++) {
            int p = i % 6, q = i % 5, b = i % 8;
            sum += x.bridge(0, 1) + x.one(0, 0, 0) + x.of(p, 6) + x.of(p, 7) + x.of(p, 8) + x.of(p, 10 + b) + x.span(b, 2);
            sum += x.errand(p, 5) + x.cross(p, b) + x.lose(b, (i & 1) == 0) + x.swap(b, (b + 3) % 8) + x.row(5, b % 4, 9);
            sum += x.feed(100) + x.city() + x.told(2) + x.pass(1) + x.on(2, 0) + x.way(p, q, 1) + x.sisters(p, 5);
            sum += x.see(p, 8, q) + x.from(p) + x.can(p, 0) + x.odds(p, 5, 1) + x.mean(0) + x.plan(0, 0) + x.ends(0);
            sum += x.book(p, q) + x.looked() + x.judge(p, q) + x.image() + x.undo() + x.act(p, 2, i) + x.trace(3);
            sum += x.taken(p, 0) + x.count(7) + x.tape(p, 1, 60) + x.item(p, q, i) + x.read(p, q) + x.shift(p, 0, 0, 1, 9);
        }
    }

    /** How many objects and rows hang on one, and how many fields and elements they have. */
    private static long[] size(Object root) throws IllegalAccessException {
        Map<Object, Boolean> met = new IdentityHashMap<>();
        List<Object> open = new ArrayList<>(List.of(root));
        met.put(root, true);
        long elements = 0;
        while (!open.isEmpty()) {
            Object one = open.remove(open.size() - 1);
            List<Object> parts = new ArrayList<>();
            if (one.getClass().isArray()) {
                elements += Array.getLength(one);
                if (one instanceof Object[] row) for (Object part : row) parts.add(part);
            } else {
                for (Field f : one.getClass().getDeclaredFields()) {
                    if (Modifier.isStatic(f.getModifiers())) continue;
                    f.setAccessible(true);
                    elements++;
                    if (!f.getType().isPrimitive()) parts.add(f.get(one));
                }
            }
            for (Object part : parts) if (part != null && met.put(part, true) == null) open.add(part);
        }
        return new long[] {met.size(), elements};
    }
}
