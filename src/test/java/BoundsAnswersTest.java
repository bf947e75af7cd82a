import java.util.function.Supplier;

/**
 * What is answered so (NONE, BAD, STATE, FULL, and the host's refusals) changes nothing; what is
 * asked changes nothing. Each call is made on an object of its own, and all that can be seen of
 * that object then is held against one on which it was not made.
 */
public final class BoundsAnswersTest extends Bounds {
    private static final String REFUSED = "What is answered so changes nothing.";
    private static final String ASKED = "what is asked changes nothing.";

    private interface Call {
        long on(BridgePairs x);
    }

    public static void main(String[] args) throws Exception { runAll(BoundsAnswersTest.class); }

    // ---- the objects

    /** Something of all: three people on a road with a fifth bridge, an image of another state, a begun text. */
    private static BridgePairs town() {
        BridgePairs x = bridges(0, 1, 1, 2, 2, 3, 3, 4, 4, 5);
        x.one(6, 3, 0);
        x.one(5, 4, 2);
        x.one(1, 5, 4);
        for (int p = 0; p <= 2; p++) x.errand(p, p * 2);
        for (int part = 0; part <= 3; part++) x.row(0, part, 5 + part);
        city(x, "dark 2;grant 3 b=1");
        x.see(0, 1, 0);
        x.plan(0, 0);
        x.book(0, 0);
        x.image();
        x.swap(0, 2);
        x.lose(2, true);
        x.errand(0, 2);
        x.cross(0, 0);
        x.cross(2, 4);
        x.pass(3);
        city(x, "grant 2 b>2;dark 1");
        x.see(1, 2, 2);
        x.see(2, 0, 5);
        x.plan(1, 3);
        x.plan(0, 0);
        x.book(2, 4);
        x.book(1, 3);
        feed(x, "dar");
        x.tape(0, 1, 3);
        x.item(0, 0, 1);
        x.item(0, 1, 7);
        x.tape(1, 3, 2);
        x.item(1, 1, 1L << 40);
        x.tape(2, 1, 0);
        x.act(0, 2, 1);
        return x;
    }

    /** All of which there may be no more is full. */
    private static BridgePairs full() {
        BridgePairs x = fanWith(6, 3);
        for (int p = 1; p <= 5; p++) x.one(p, 4 + p, p % 2);
        for (int i = 0; i <= 5; i++) city(x, "dark " + i);
        x.image();
        for (int i = 0; i <= 4; i++) x.see(i, i, 1);
        for (int i = 0; i <= 7; i++) x.plan(i % 3, i);
        for (int i = 0; i <= 7; i++) x.book(i % 6, i % 2);
        for (int i = 0; i < 100; i++) x.feed(59);
        return x;
    }

    // ---- what can be seen

    private static String seen(BridgePairs x) {
        StringBuilder s = new StringBuilder();
        theWorld(x, s);
        theQuestions(x, s);
        for (int i = 0; i <= 12; i++) s.append(x.trace(i)).append(' ');
        s.append("| tapes ");
        for (int tape = 0; tape <= 5; tape++) {
            for (int i = 0; i <= 3; i++) s.append(x.read(tape, i) == NO ? "-" : x.read(tape, i)).append(' ');
        }
        s.append("| the text ");
        feed(x, "k 7");
        s.append(x.city()).append(' ').append(x.told(1)).append(' ').append(x.count(6));
        s.append("| the image ").append(x.undo()).append(' ');
        for (int what = 0; what <= 4; what++) s.append(x.told(what)).append(' ');
        for (int p = 0; p < x.count(0); p++) s.append(x.of(p, 2)).append(x.of(p, 5)).append(x.of(p, 10)).append(' ');
        for (int what = 0; what <= 5; what++) s.append(x.count(what)).append(' ');
        return s.append(x.looked()).append(x.ends(0)).append(x.from(0)).append(x.span(0, 2)).toString();
    }

    private static void theWorld(BridgePairs x, StringBuilder s) {
        int people = x.count(0), bridges = x.count(1);
        for (int what = 0; what <= 7; what++) s.append(x.count(what)).append(' ');
        s.append("| told ");
        for (int what = 0; what <= 4; what++) s.append(x.told(what)).append(' ');
        s.append("| people ");
        for (int p = 0; p < people; p++) {
            for (int what = 0; what <= 8; what++) s.append(x.of(p, what)).append(' ');
            for (int b = 0; b < bridges && b <= 4; b++) s.append(leave(x, p, b)).append(' ');
        }
        s.append("| bridges ");
        for (int b = 0; b < bridges; b++) {
            for (int what = 0; what <= 3; what++) s.append(x.span(b, what)).append(' ');
        }
    }

    private static void theQuestions(BridgePairs x, StringBuilder s) {
        s.append("| asked ");
        for (int p = 0; p < x.count(0); p++) {
            s.append(x.way(p, 2, -1)).append(' ').append(x.from(p)).append(' ').append(x.can(p, 0)).append(' ');
            s.append(x.on(4, 10 + p)).append(' ').append(x.on(4, 30 + p)).append(' ');
        }
        s.append(x.ends(0)).append(' ').append(x.ends(1)).append(' ').append(x.looked()).append(' ');
        s.append(x.mean(0)).append(' ').append(x.judge(0, 0)).append(" | trace ");
    }

    private static void unchanged(String words, Supplier<BridgePairs> world, long want, Call call) {
        says(words);
        BridgePairs x = world.get();
        due(call.on(x), want);
        dueText(seen(x), seen(world.get()));
    }

    private static void town(long want, Call call) { unchanged(REFUSED, BoundsAnswersTest::town, want, call); }

    private static void full(long want, Call call) { unchanged(REFUSED, BoundsAnswersTest::full, want, call); }

    private static void empty(long want, Call call) { unchanged(REFUSED, BridgePairs::new, want, call); }

    // ---- refused

    static void whatIsSeenIsEnough() {
        says("every change of an object can be seen");
        Call[] changes = {x -> x.bridge(0, 1), x -> x.one(0, 0, 0), x -> x.errand(0, 5), x -> x.cross(2, 4), x -> x.lose(0, true),
            x -> x.swap(0, 2), x -> x.row(0, 1, 0), x -> x.feed(' '), x -> x.city(), x -> x.pass(1), x -> x.see(0, 0, 0),
            x -> x.see(-1, 0, 0), x -> x.plan(0, 0), x -> x.plan(-1, 0), x -> x.book(0, 0), x -> x.book(-1, 0), x -> x.image(),
            x -> x.undo(), x -> x.act(0, 0, 0), x -> x.act(9, 0, 0), x -> x.tape(0, 1, 3), x -> x.item(0, 2, 1),
            x -> x.shift(0, 0, 0, 1, 1)};
        String before = seen(town());
        for (Call change : changes) {
            BridgePairs x = town();
            change.on(x);
            due(seen(x).equals(before) ? 1 : 0, 0);
        }
    }

    static void refusedBridge() {
        town(NONE, x -> x.bridge(6, 0));
        town(NONE, x -> x.bridge(0, -1));
        town(BAD, x -> x.bridge(3, 3));
        full(FULL, x -> x.bridge(0, 1));
    }

    static void refusedOne() {
        town(NONE, x -> x.one(7, 0, 0));
        town(NONE, x -> x.one(0, 0, 6));
        town(BAD, x -> x.one(0, 10, 0));
        full(FULL, x -> x.one(0, 0, 0));
    }

    static void refusedErrand() {
        town(NONE, x -> x.errand(3, 0));
        town(NONE, x -> x.errand(0, 6));
        town(NONE, x -> x.errand(0, -2));
        empty(NONE, x -> x.errand(0, 0));
    }

    static void refusedCross() {
        town(NONE, x -> x.cross(3, 0));
        town(NONE, x -> x.cross(0, 5));
        town(STATE, x -> x.cross(0, 4));
        town(STATE, x -> x.cross(0, 2));
        empty(NONE, x -> x.cross(0, 0));
    }

    static void refusedLoseAndSwap() {
        town(NONE, x -> x.lose(5, true));
        town(NONE, x -> x.lose(-1, false));
        town(NONE, x -> x.swap(5, 0));
        town(STATE, x -> x.swap(1, 1));
        town(STATE, x -> x.swap(0, 3));
        town(STATE, x -> x.swap(0, 4));
        town(STATE, x -> x.swap(4, 0));
    }

    static void refusedRow() {
        town(NONE, x -> x.row(3, 0, 0));
        town(NONE, x -> x.row(0, 4, 0));
        town(BAD, x -> x.row(0, 0, 10));
        town(STATE, x -> x.row(1, 0, 0));
    }

    static void refusedText() {
        town(BAD, x -> x.feed(128));
        town(BAD, x -> x.feed(-1));
        full(FULL, x -> x.feed(32));
        full(FULL, x -> x.city());
    }

    static void refusedTold() {
        town(NONE, x -> x.told(5));
        town(BAD, x -> x.pass(13));
        town(BAD, x -> x.pass(-1));
        town(NO_SUCH, x -> x.of(3, 0));
        town(NO_SUCH, x -> x.of(0, 9));
        town(NO_SUCH, x -> x.of(0, 15));
        town(NONE, x -> x.span(5, 0));
        town(NONE, x -> x.span(0, 4));
    }

    static void refusedSee() {
        town(NONE, x -> x.see(3, 0, 0));
        town(NONE, x -> x.see(0, 0, 6));
        town(BAD, x -> x.see(0, 9, 0));
        full(FULL, x -> x.see(0, 0, 0));
    }

    static void refusedPlan() {
        town(NONE, x -> x.plan(4, 0));
        town(NONE, x -> x.plan(-2, 0));
        town(NONE, x -> x.plan(1, 5));
        town(NONE, x -> x.plan(2, -1));
        town(NONE, x -> x.plan(3, 3));
        full(FULL, x -> x.plan(0, 0));
    }

    static void refusedBook() {
        town(NONE, x -> x.book(3, 0));
        town(NONE, x -> x.book(-2, 0));
        town(NONE, x -> x.book(0, 6));
        full(FULL, x -> x.book(0, 0));
    }

    static void refusedQuestions() {
        town(NONE, x -> x.on(0, 13));
        town(BAD, x -> x.on(13, 10));
        town(NONE, x -> x.way(3, 0, 0));
        town(NONE, x -> x.way(0, 0, 12));
        town(NONE, x -> x.sisters(0, 6));
        town(NONE, x -> x.from(3));
        town(NONE, x -> x.can(0, 2));
        town(NO, x -> x.odds(0, 6, 0));
        town(NO, x -> x.mean(2));
        town(NONE, x -> x.ends(2));
        town(BAD, x -> x.count(8));
        town(NONE, x -> x.trace(12));
    }

    static void refusedUndo() {
        empty(STATE, x -> x.undo());
        unchanged(REFUSED, () -> roadWith(6, 5), STATE, x -> x.undo());
    }

    static void refusedTapes() {
        town(NONE, x -> x.tape(6, 0, 1));
        town(BAD, x -> x.tape(0, 5, 1));
        town(BAD, x -> x.tape(0, 1, 61));
        town(SIZE, x -> x.tape(0, 1, -1));
        town(NONE, x -> x.item(6, 0, 1));
        town(NOTHING, x -> x.item(3, 0, 1));
        town(PLACE, x -> x.item(0, 3, 1));
        town(PLACE, x -> x.item(2, 0, 1));
        town(NO, x -> x.read(3, 0));
        town(NONE, x -> x.shift(0, 0, 6, 0, 1));
        town(NOTHING, x -> x.shift(0, 0, 3, 0, 1));
        town(CAST, x -> x.shift(0, 0, 1, 0, 1));
        town(PLACE, x -> x.shift(0, 0, 0, 1, 3));
        town(PLACE, x -> x.shift(0, 0, 2, 0, 1));
        town(NONE, x -> x.judge(6, 0));
        town(CAST, x -> x.judge(1, 0));
    }

    static void refusedTaken() {
        town(BAD, x -> x.taken(0, 7));
        town(NOTHING, x -> x.taken(3, 0));
        town(CAST, x -> x.taken(0, 1));
    }

    // ---- asked

    private static void asked(Call call) {
        says(ASKED);
        for (int world = 0; world <= 2; world++) {
            BridgePairs x = world(world), y = world(world);
            call.on(x);
            dueText(seen(x), seen(y));
        }
    }

    private static BridgePairs world(int n) { return n == 0 ? town() : n == 1 ? full() : new BridgePairs(); }

    static void askedOfPeopleAndBridges() {
        for (int what = 0; what <= 17; what++) {
            int w = what;
            asked(x -> x.of(2, w));
        }
        asked(x -> x.of(0, 6));
        asked(x -> x.of(0, 7));
        asked(x -> x.span(0, 2));
        for (int what = 0; what <= 4; what++) {
            int w = what;
            asked(x -> x.told(w));
        }
    }

    static void askedOfHoursAndWays() {
        for (int what : new int[] {0, 10, 11, 20, 22, 30, 31}) asked(x -> x.on(12, what));
        for (int k : new int[] {-1, 0, 11}) asked(x -> x.way(0, 4, k));
        for (int p = 0; p <= 2; p++) {
            int one = p;
            for (int q = 0; q <= 5; q++) {
                int quarter = q;
                asked(x -> x.sisters(one, quarter));
                asked(x -> x.odds(one, quarter, 0));
            }
            asked(x -> x.from(one));
            asked(x -> x.can(one, 0));
            asked(x -> x.can(one, 1));
        }
    }

    static void askedOfTheRest() {
        asked(x -> x.mean(0));
        asked(x -> x.ends(0));
        asked(x -> x.ends(1));
        asked(x -> x.looked());
        asked(x -> x.judge(0, 0));
        asked(x -> x.trace(0));
        asked(x -> x.taken(0, 0));
        asked(x -> x.count(7));
        asked(x -> x.read(0, 0));
    }

    static void askedAfterAskedIsTheSame() {
        says(ASKED);
        BridgePairs x = town();
        for (int again = 0; again < 3; again++) {
            due(x.sisters(1, 4), town().sisters(1, 4));
            due(x.way(1, 4, 0), town().way(1, 4, 0));
            due(x.of(0, 6), town().of(0, 6));
            due(x.odds(1, 4, 0), town().odds(1, 4, 0));
            due(x.from(1), town().from(1));
            due(x.on(12, 32), town().on(12, 32));
        }
    }
}
