import java.lang.reflect.Method;

/** Each promise by hand: ordinary inputs, the edges that the document names, wrong inputs. */
public final class PromisesTest {
    private static final long NO = Long.MIN_VALUE;
    private static final int MIN = Integer.MIN_VALUE, MAX = Integer.MAX_VALUE;
    private static int wrong;
    private static String promise = "";

    private static void due(String call, long got, long want) {
        if (got != want) {
            wrong++;
            System.out.println(promise + ": " + call + " answered " + got + ", due is " + want);
        }
    }

    public static void main(String[] args) throws Exception {
        for (int i = 1; i <= 37; i++) {
            promise = "promise" + i;
            Method test = PromisesTest.class.getDeclaredMethod(promise);
            test.invoke(null);
        }
        promise = "terms";
        crossing();
        leave();
        dark();
        questionsChangeNothing();
        promise = "anything";
        wildArguments();
        System.out.println(wrong == 0 ? "every promise holds" : wrong + " answers are not as due");
        if (wrong != 0) System.exit(1);
    }

    // ---- worlds to start from

    private static BridgePairs bridges(int... ends) {
        BridgePairs x = new BridgePairs();
        for (int i = 0; i < ends.length; i += 2) x.bridge(ends[i], ends[i + 1]);
        return x;
    }

    /** A road 0 - 1 - 2 - 3 - 4, its bridges sisters two by two. */
    private static BridgePairs road() { return bridges(0, 1, 1, 2, 2, 3, 3, 4); }

    private static BridgePairs roadWith(int kind, int v) {
        BridgePairs x = road();
        x.one(kind, v, 0);
        return x;
    }

    private static int city(BridgePairs x, String s) {
        for (int i = 0; i < s.length(); i++) x.feed(s.charAt(i));
        return x.city();
    }

    private static int city(String s) { return city(new BridgePairs(), s); }

    // ---- the promises

    static void promise1() {
        BridgePairs x = new BridgePairs();
        for (int i = 0; i < 8; i++) due("count " + i, x.count(i), 0);
        for (int i = 0; i < 5; i++) due("told " + i, x.told(i), 0);
        due("of", x.of(0, 0), -10001);
        due("span", x.span(0, 0), -1);
        due("undo", x.undo(), -3);
        due("constants", BridgePairs.NONE * 1000 + BridgePairs.BAD * 100 + BridgePairs.STATE * 10 + BridgePairs.FULL, -1234);
        due("NO", BridgePairs.NO, NO);
    }

    static void promise2() {
        BridgePairs x = new BridgePairs();
        due("none", x.bridge(6, 6), -1);
        due("none", x.bridge(-1, 0), -1);
        due("none", x.bridge(0, 6), -1);
        due("bad", x.bridge(5, 5), -2);
        for (int i = 0; i < 8; i++) due("bridge", x.bridge(5, 0), i);
        due("full", x.bridge(5, 0), -4);
        due("bad ahead of full", x.bridge(1, 1), -2);
        due("none ahead of full", x.bridge(1, 6), -1);
        due("count", x.count(1), 8);
    }

    static void promise3() {
        BridgePairs x = new BridgePairs();
        due("none", x.one(7, 0, 0), -1);
        due("none", x.one(-1, 0, 0), -1);
        due("none ahead of bad", x.one(0, 10, 6), -1);
        due("none", x.one(0, 0, -1), -1);
        due("bad", x.one(0, 10, 0), -2);
        due("bad", x.one(0, -1, 0), -2);
        for (int i = 0; i < 6; i++) due("one", x.one(i, i, i), i);
        due("full", x.one(6, 9, 5), -4);
        due("bad ahead of full", x.one(6, 11, 5), -2);
        for (int i = 0; i < 6; i++) {
            due("at", x.of(i, 2), i);
            due("said", x.of(i, 3), i);
            due("no errand", x.of(i, 4), -5);
            due("half", x.of(i, 5), 0);
        }
    }

    static void promise4() {
        BridgePairs x = roadWith(4, 7);
        due("kind", x.of(0, 0), 4);
        due("v", x.of(0, 1), 7);
        x.errand(0, 4);
        due("errand", x.of(0, 4), 4);
        due("reach", x.of(0, 6), 1 | 4 | 16);
        due("done", x.of(0, 7), 4);
        due("may", x.of(0, 8), 1);
        x.cross(0, 0);
        due("at", x.of(0, 2), 1);
        due("said", x.of(0, 3), 0);
        due("half", x.of(0, 5), 1);
        due("may", x.of(0, 8), 3);
        due("reach", x.of(0, 6), 1 | 4 | 16);
        due("leave even", x.of(0, 12), 10);
        due("leave odd", x.of(0, 13), 5);
        due("no such bridge", x.of(0, 14), -10001);
        for (int what : new int[] {-1, 9, 18, MIN, MAX}) due("none", x.of(0, what), -10001);
        due("none", x.of(1, 0), -10001);
        due("none", x.of(-1, 0), -10001);
        x.errand(0, 3);
        due("never done", x.of(0, 7), -5);
        x.errand(0, -1);
        due("no errand, not done", x.of(0, 7), -5);
        BridgePairs y = new BridgePairs();
        y.one(0, 0, 3);
        y.errand(0, 3);
        due("done now", y.of(0, 7), 0);
        due("reach without bridges", y.of(0, 6), 8);
    }

    static void promise5() {
        BridgePairs x = bridges(3, 2, 4, 5, 0, 1);
        due("first", x.span(0, 0), 3);
        due("second", x.span(0, 1), 2);
        due("sister", x.span(0, 2), 1);
        due("sister", x.span(1, 2), 0);
        due("no sister", x.span(2, 2), -5);
        due("lost", x.span(2, 3), 0);
        x.lose(2, true);
        due("lost", x.span(2, 3), 1);
        due("none", x.span(3, 0), -1);
        due("none", x.span(-1, 0), -1);
        due("none", x.span(0, 4), -1);
        due("none", x.span(0, -1), -1);
        x.bridge(1, 2);
        due("a sister comes", x.span(2, 2), 3);
    }

    static void promise6() {
        BridgePairs x = roadWith(0, 0);
        due("had none", x.errand(0, 5), -5);
        due("had 5", x.errand(0, 0), 5);
        due("had 0", x.errand(0, -1), 0);
        due("had none", x.errand(0, -1), -5);
        due("none", x.errand(0, 6), -1);
        due("none", x.errand(0, -2), -1);
        due("none", x.errand(1, 0), -1);
        due("none", x.errand(-1, 0), -1);
        due("kept", x.of(0, 4), -5);
    }

    static void promise7() {
        BridgePairs x = roadWith(0, 0);
        due("not at it", x.cross(0, 1), -3);
        due("cross", x.cross(0, 0), 1);
        due("cross", x.cross(0, 1), 2);
        due("half", x.of(0, 5), 0);
        due("said", x.of(0, 3), 2);
        due("back by the same", x.cross(0, 1), 1);
        due("half", x.of(0, 5), 2);
        due("none", x.cross(1, 0), -1);
        due("none", x.cross(0, 4), -1);
        due("none", x.cross(0, -1), -1);
        x.lose(0, true);
        due("lost", x.cross(0, 0), -3);
        x.lose(0, false);
        city(x, "bar 3 b=0");
        due("barred", x.cross(0, 0), -3);
        due("not barred", x.cross(0, 1), 2);
    }

    static void promise8() {
        BridgePairs x = road();
        due("was not", x.lose(3, true), 0);
        due("was", x.lose(3, true), 1);
        due("bits", x.told(4), 8);
        due("was", x.lose(3, false), 1);
        due("was not", x.lose(3, false), 0);
        due("bits", x.told(4), 0);
        due("none", x.lose(4, true), -1);
        due("none", x.lose(-1, true), -1);
        x.one(5, 0, 0);
        x.one(0, 0, 0);
        x.lose(0, true);
        due("a widow crosses", x.cross(0, 0), 1);
        due("one does not", x.cross(1, 0), -3);
    }

    static void promise9() {
        BridgePairs x = bridges(0, 1, 1, 2, 2, 3, 3, 4, 4, 5);
        due("swap", x.swap(0, 2), 3);
        due("0", x.span(0, 2), 3);
        due("3", x.span(3, 2), 0);
        due("2", x.span(2, 2), 1);
        due("1", x.span(1, 2), 2);
        due("sisters", x.swap(0, 3), -3);
        due("one is both", x.swap(1, 1), -3);
        due("has none", x.swap(0, 4), -3);
        due("has none", x.swap(4, 0), -3);
        due("none", x.swap(0, 5), -1);
        due("none", x.swap(-1, 0), -1);
        due("back", x.swap(0, 2), 1);
        due("unlike ends", x.swap(1, 2), 3);
        due("0", x.span(0, 2), 2);
    }

    static void promise10() {
        BridgePairs x = roadWith(6, 0);
        x.one(3, 0, 0);
        due("was", x.row(0, 3, 9), 0);
        due("was", x.row(0, 3, 2), 9);
        due("none", x.row(0, 4, 1), -1);
        due("none", x.row(0, -1, 10), -1);
        due("none", x.row(2, 0, 1), -1);
        due("bad", x.row(0, 0, 10), -2);
        due("bad ahead of state", x.row(1, 0, -1), -2);
        due("state", x.row(1, 0, 5), -3);
        due("leave", x.of(0, 13), 3 + 2 - 4);
        due("leave", x.of(0, 10), 3 - 4);
        for (int i = 0; i < 4; i++) x.bridge(0, 5);
        due("modulo 4", x.of(0, 17), 3 + 2 - 4);
    }

    static void promise11() {
        BridgePairs x = new BridgePairs();
        due("bad", x.feed(128), -2);
        due("bad", x.feed(-1), -2);
        for (int i = 1; i <= 100; i++) due("feed", x.feed(i == 1 ? 0 : 127), i);
        due("full", x.feed(0), -4);
        due("bad ahead of full", x.feed(128), -2);
        due("count", x.count(6), 100);
    }

    static void promise12() {
        due("empty", city(""), -10);
        due("no word", city("x"), -10);
        due("word", city("dork 1"), -11);
        for (String end : new String[] {"d", "dark", "dark ", "grant", "grant ", "bar 1 p", "bar 1 p=", "bar 1 !", "bar 1 (",
            "bar 1 p=1&", "bar 1 p=1|", "bar 1 (p=1)&", "dark 1;b"}) {
            due(end, city(end), -10 - end.length());
        }
        due("sign 0", city("bar 1 p=1" + (char) 0), -19);
        due("two blanks", city("dark  1"), -15);
        due("two digits", city("dark 10"), 0);
        due("three digits", city("dark 100"), -17);
        due("ends", city("grant 1"), -17);
        due("ends behind the blank", city("grant 1 "), -18);
        due("no expression", city("bar 1;"), -15);
        due("no relation", city("bar 1 p!1"), -17);
        due("letter", city("bar 1 g=1"), -16);
        due("no number", city("bar 1 p=x"), -18);
        due("third digit", city("bar 1 p=123"), -20);
        due("open", city("bar 1 (p=1"), -20);
        due("not open", city("bar 1 p=1)"), -19);
        due("four", city("bar 1 !(!(p=1))"), 0);
        due("five", city("bar 1 !(!(!p=1))"), -20);
        due("four !", city("bar 1 !!!!p=1"), 0);
        due("five !", city("bar 1 !!!!!p=1"), -20);
        due("beside, not within", city("bar 1 !!!!p=1&!!!!p=2|((((p=3))))"), 0);
        due("a blank at the end", city("bar 1 p=1 "), -19);
        due("; at the end", city("dark 1;"), -17);
        due("two joins", city("bar 1 p=1&|p=2"), -20);
        due("ten", city("dark 1;dark 1;dark 1;dark 1;dark 1;dark 1;dark 1;dark 1;dark 1;dark 1"), 0);
        due("eleven", city("dark 1;dark 1;dark 1;dark 1;dark 1;dark 1;dark 1;dark 1;dark 1;dark 1;"), -79);
        BridgePairs x = new BridgePairs();
        for (int i = 0; i < 6; i++) due("city", city(x, "dark " + i), i);
        due("full", city(x, "dark"), -4);
        due("the text stays", x.count(6), 4);
        due("the newest holds", x.told(1), 5);
        BridgePairs y = new BridgePairs();
        city(y, "dark 7");
        due("fault", city(y, "dark 8 "), -16);
        due("the one that held holds", y.told(1), 7);
        due("the text is empty", y.count(6), 0);
        due("cities", y.count(2), 1);
        due("fault", city(y, "grant 50 p=0;;"), -23);
        due("next", city(y, "bar 1 p<0|p=1"), 1);
        y.bridge(0, 1);
        y.one(0, 0, 0);
        y.one(0, 0, 0);
        due("nothing of a fault stays", y.of(0, 10), 3);
        due("the city is barred to 1", y.of(1, 10), 2);
        due("without dark", y.told(1), 0);
    }

    static void promise13() {
        BridgePairs x = roadWith(0, 0);
        x.one(0, 0, 4);
        x.errand(0, 1);
        x.errand(1, 4);
        due("truly", x.told(2), 2);
        x.cross(0, 0);
        due("at, not truly", x.told(2), 2);
        due("half", x.told(3), 1);
        x.cross(1, 3);
        due("half of all", x.told(3), 2);
        due("truly", x.told(2), 0);
        x.lose(2, true);
        x.lose(0, true);
        due("lost", x.told(4), 5);
        x.pass(4);
        due("hour", x.told(0), 4);
        city(x, "dark 3;dark 12");
        due("the last dark", x.told(1), 12);
        due("none", x.told(5), -1);
        due("none", x.told(-1), -1);
    }

    static void promise14() {
        BridgePairs x = roadWith(0, 0);
        x.errand(0, 4);
        due("bad", x.pass(13), -2);
        due("bad", x.pass(-1), -2);
        due("nothing", x.pass(0), 0);
        due("at", x.of(0, 2), 0);
        due("one", x.pass(1), 1);
        due("at", x.of(0, 2), 1);
        due("twelve", x.pass(12), 13);
        due("at", x.of(0, 2), 4);
        due("half", x.of(0, 5), 0);
        due("said", x.of(0, 3), 4);
        BridgePairs y = new BridgePairs();
        for (int i = 0; i < 833; i++) y.pass(12);
        due("hour", y.told(0), 9996);
        due("state", y.pass(4), -3);
        due("bad ahead of state", y.pass(13), -2);
        due("last", y.pass(3), 9999);
        due("still", y.pass(0), 9999);
        due("on goes beyond", y.on(12, 0), 0);
    }

    static void promise15() {
        BridgePairs x = roadWith(0, 0);
        x.one(0, 0, 2);
        x.errand(0, 4);
        x.errand(1, 0);
        due("at", x.on(3, 10), 3);
        due("said", x.on(3, 20), 2);
        due("half", x.on(3, 30), 4);
        due("at of 1", x.on(1, 11), 1);
        due("half of 1", x.on(1, 31), 2);
        due("who", x.on(2, 0), 2);
        due("who", x.on(12, 0), 3);
        due("now", x.on(0, 10), 0);
        due("none", x.on(0, 12), -1);
        for (int what : new int[] {-1, 1, 9, 22, 32, 40, 110, MIN, MAX}) due("none", x.on(0, what), -1);
        due("none ahead of bad", x.on(13, 40), -1);
        due("bad", x.on(13, 0), -2);
        due("bad", x.on(-1, 10), -2);
    }

    static void promise16() {
        BridgePairs x = roadWith(0, 0);
        due("long", x.way(0, 4, -1), 4);
        for (int k = 0; k < 12; k++) due("step", x.way(0, 4, k), k < 4 ? k : -5);
        due("here", x.way(0, 0, -1), 0);
        due("here", x.way(0, 0, 0), -5);
        due("no way", x.way(0, 5, -1), -5);
        due("no way", x.way(0, 5, 0), -5);
        due("none", x.way(0, 6, -1), -1);
        due("none", x.way(1, 0, -1), -1);
        due("none", x.way(0, 0, -2), -1);
        due("none", x.way(0, 5, 12), -1);
        BridgePairs several = bridges(0, 1, 1, 2, 0, 1, 1, 2);
        several.one(0, 0, 0);
        due("the first row", several.way(0, 2, 0) * 10 + several.way(0, 2, 1), 1);
        several.swap(0, 2);
        due("the first row", several.way(0, 2, 0) * 10 + several.way(0, 2, 1), 3);
        BridgePairs twelve = bridges(1, 4, 0, 5, 2, 1, 3, 1, 0, 3, 1, 4, 2, 4, 0, 5);
        twelve.one(4, 9, 0);
        due("twelve", twelve.way(0, 4, -1), 12);
        BridgePairs thirteen = bridges(4, 1, 0, 5, 2, 4, 3, 0, 0, 4, 3, 1, 0, 5, 1, 2);
        thirteen.one(4, 6, 0);
        thirteen.cross(0, 3);
        due("thirteen are too many", thirteen.way(0, 3, -1), -5);
        due("nor is it in reach", thirteen.of(0, 6) >> 3 & 1, 0);
    }

    static void promise17() {
        BridgePairs x = bridges(0, 1, 3, 4, 4, 5, 1, 2);
        x.one(0, 0, 0);
        due("as it is", x.way(0, 2, -1), -5);
        due("0 gets 3 by the first pair", x.sisters(0, 2), 2);
        due("none is less", x.sisters(0, 0), -5);
        due("none helps", x.sisters(0, 1), -5);
        due("none", x.sisters(0, 6), -1);
        due("none", x.sisters(1, 0), -1);
        due("nothing is changed", x.span(0, 2), 1);
        BridgePairs y = bridges(4, 5, 5, 3, 0, 1, 3, 5, 3, 4, 1, 2, 0, 3, 1, 2);
        y.one(0, 0, 0);
        due("2 and 5 by 2 and 4", y.sisters(0, 2), 24);
        y.lose(5, true);
        due("2 and 7 by 2 and 6", y.sisters(0, 2), 26);
        BridgePairs z = bridges(4, 5, 0, 1, 4, 5, 1, 2);
        z.one(0, 0, 0);
        due("1 gets 3 by 0 and 3", z.sisters(0, 2), 3);
        z.swap(0, 2);
        due("1 gets 3 by 0", z.sisters(0, 2), 1);
        x.swap(0, 2);
        due("as it is", x.way(0, 2, -1), 2);
        due("none is less", x.sisters(0, 2), -5);
        due("none", new BridgePairs().sisters(0, 0), -1);
    }

    static void promise18() {
        BridgePairs x = roadWith(0, 0);
        due("none", x.see(1, 0, 0), -1);
        due("none", x.see(-2, 0, 0), -1);
        due("none ahead of bad", x.see(0, 9, 6), -1);
        due("bad", x.see(0, 9, 0), -2);
        due("bad", x.see(0, -1, 0), -2);
        for (int i = 1; i <= 5; i++) due("see", x.see(0, 8, i), i);
        due("full", x.see(0, 0, 0), -4);
        due("bad ahead of full", x.see(0, 9, 0), -2);
        due("none then", x.see(-1, 99, 99), 0);
        due("count", x.count(3), 0);
    }

    static void promise19() {
        BridgePairs x = roadWith(0, 0);
        x.one(0, 0, 3);
        x.errand(0, 2);
        due("nothing seen", x.from(0), 63);
        x.see(0, 0, 0);
        due("at it now", x.from(0), 1);
        x.see(-1, 0, 0);
        x.see(0, 2, 2);
        due("in two hours", x.from(0), 1 | 4 | 16);
        x.see(0, 1, 3);
        due("and by 3", x.from(0), 16);
        x.see(1, 0, 1);
        due("another's does not matter", x.from(0), 16);
        due("the other's", x.from(1), 2);
        x.see(0, 1, 1);
        due("never both", x.from(0), 0);
        due("none", x.from(2), -1);
        due("none", x.from(-1), -1);
        due("nothing is changed", x.of(0, 2), 0);
        x.see(-1, 0, 0);
        x.see(0, 0, 0);
        x.see(0, 1, 1);
        x.see(0, 2, 2);
        x.image();
        x.see(-1, 0, 0);
        x.see(0, 0, 4);
        x.see(0, 0, 4);
        x.see(0, 0, 4);
        due("otherwise", x.from(0), 16);
        x.undo();
        due("as in the image", x.from(0), 1);
    }

    static void promise20() {
        BridgePairs x = road();
        x.one(1, 9, 0);
        x.errand(0, 2);
        due("nothing seen", x.can(0, 0), 10);
        due("the least", x.can(0, 1), 0);
        x.see(0, 2, 2);
        due("v from 3 on leaves by bridge 1", x.can(0, 0), 7);
        due("the least", x.can(0, 1), 3);
        x.see(0, 2, 1);
        due("never both", x.can(0, 0), 0);
        due("the least", x.can(0, 1), -5);
        due("none", x.can(1, 0), -1);
        due("none", x.can(0, 2), -1);
        due("none", x.can(0, -1), -1);
        due("nothing is changed", x.of(0, 1), 9);
    }

    static void promise21() {
        BridgePairs x = new BridgePairs();
        x.one(0, 0, 0);
        due("no bridges", x.odds(0, 0, 0), NO);
        x = bridges(0, 1, 1, 2, 2, 3, 3, 4);
        x.one(0, 0, 0);
        due("above", x.odds(0, 2, 0), 1);
        due("below", x.odds(0, 2, 1), 2);
        due("here", x.odds(0, 0, 0) * 10 + x.odds(0, 0, 1), 11);
        due("never", x.odds(0, 5, 0) * 10 + x.odds(0, 5, 1), 1);
        x.lose(3, true);
        due("lost too", x.odds(0, 2, 0) * 10 + x.odds(0, 2, 1), 12);
        x.lose(0, true);
        due("never", x.odds(0, 2, 0) * 10 + x.odds(0, 2, 1), 1);
        due("nothing is changed", x.told(4), 9);
        x.one(5, 0, 0);
        due("a widow", x.odds(1, 2, 0) * 10 + x.odds(1, 2, 1), 11);
        due("part", x.odds(0, 2, 2), NO);
        due("part", x.odds(0, 2, -1), NO);
        due("quarter", x.odds(0, 6, 0), NO);
        due("person", x.odds(2, 0, 0), NO);
    }

    static void promise22() {
        BridgePairs x = road();
        due("no people", x.mean(0), NO);
        for (int i = 0; i < 6; i++) x.one(0, 0, 0);
        due("none half", x.mean(0) * 10 + x.mean(1), 1);
        for (int i = 0; i < 4; i++) x.cross(i, 0);
        due("lowest terms", x.mean(0) * 10 + x.mean(1), 23);
        x.cross(4, 0);
        due("above", x.mean(0), 5);
        due("below", x.mean(1), 6);
        due("part", x.mean(2), NO);
        due("part", x.mean(-1), NO);
    }

    static void promise23() {
        BridgePairs x = roadWith(0, 0);
        due("none", x.plan(4, 0), -1);
        due("none", x.plan(-2, 0), -1);
        due("none", x.plan(1, 4), -1);
        due("none", x.plan(2, -1), -1);
        due("none", x.plan(3, 1), -1);
        due("an hour", x.plan(0, 99), 1);
        due("lost", x.plan(1, 3), 2);
        due("found", x.plan(2, 0), 3);
        due("no errand", x.plan(3, 0), 4);
        for (int i = 5; i <= 8; i++) due("plan", x.plan(0, -1), i);
        due("full", x.plan(0, 0), -4);
        due("none ahead of full", x.plan(3, 1), -1);
        due("empty", x.plan(-1, 99), 0);
        due("count", x.count(4), 0);
    }

    static void promise24() {
        BridgePairs x = roadWith(0, 0);
        x.errand(0, 2);
        due("now", x.ends(0), 0);
        x.plan(0, 0);
        due("half", x.ends(1), 1);
        x.plan(0, 0);
        due("there", x.ends(0), 1);
        due("none half", x.ends(1), 0);
        x.plan(3, 0);
        due("no errand", x.ends(0), 0);
        x.plan(-1, 0);
        x.plan(0, 0);
        x.plan(1, 1);
        x.plan(0, 0);
        due("lost on the way", x.ends(0) * 10 + x.ends(1), 1);
        x.plan(2, 1);
        x.plan(0, 0);
        due("found again", x.ends(0) * 10 + x.ends(1), 10);
        due("none", x.ends(2), -1);
        due("none", x.ends(-1), -1);
        due("nothing is changed", x.told(0) + x.told(4) + x.of(0, 2), 0);
        due("errand stays", x.of(0, 4), 2);
    }

    static void promise25() {
        BridgePairs x = roadWith(0, 0);
        due("none", x.book(1, 0), -1);
        due("none", x.book(-2, 0), -1);
        due("none", x.book(0, 6), -1);
        due("none", x.book(0, -1), -1);
        for (int i = 1; i <= 8; i++) due("book", x.book(0, 0), i);
        due("full", x.book(0, 0), -4);
        due("none ahead of full", x.book(0, 6), -1);
        due("empty", x.book(-1, 99), 0);
        due("count", x.count(5), 0);
    }

    static void promise26() {
        BridgePairs x = roadWith(0, 0);
        x.one(0, 0, 3);
        due("no rows", x.looked(), -5);
        x.book(0, 0);
        x.book(1, 3);
        due("as told", x.looked(), -5);
        x.book(1, 2);
        x.book(0, 5);
        due("the first", x.looked(), 2);
        x.cross(0, 0);
        due("said, not at", x.looked(), 2);
        x.cross(0, 1);
        due("said otherwise", x.looked(), 0);
    }

    static void promise27() {
        BridgePairs x = road();
        due("no people", x.judge(0, 0), -5);
        for (int i = 0; i < 3; i++) x.one(0, 0, i);
        x.cross(1, 1);
        due("nothing told", x.judge(0, 0), 100);
        x.tape(0, 1, 5);
        x.item(0, 2, 2);
        due("all as told", x.judge(0, 1), -5);
        due("the second", x.judge(0, 0), 1);
        due("the first", x.judge(0, 2), 0);
        due("ends after one", x.judge(0, 4), 101);
        due("ends at once", x.judge(0, 5), 100);
        due("below 0", x.judge(0, -1), 100);
        due("far", x.judge(0, MAX), 100);
        x.item(0, 4, -1);
        due("of several", x.judge(0, 4), 0);
        due("none", x.judge(6, 0), -1);
        due("none", x.judge(-1, 0), -1);
        BridgePairs alone = roadWith(0, 0);
        alone.tape(0, 1, 1);
        alone.item(0, 0, 3);
        due("one alone", alone.judge(0, 0), 0);
        for (int sort : new int[] {0, 2, 3, 4}) {
            x.tape(1, sort, 5);
            due("cast", x.judge(1, -1), -12);
            due("cast without people", castWithoutPeople(sort), -12);
        }
    }

    private static int castWithoutPeople(int sort) {
        BridgePairs x = new BridgePairs();
        x.tape(0, sort, 0);
        return x.judge(0, 0);
    }

    static void promise28() {
        BridgePairs x = road();
        due("image", x.image(), 0);
        x.one(0, 0, 0);
        due("image", x.image(), 1);
        x.one(0, 0, 0);
        due("the latest", x.undo(), 1);
    }

    static void promise29() {
        BridgePairs x = bridges(0, 1, 1, 2, 2, 3, 3, 4, 4, 5);
        due("state", x.undo(), -3);
        x.one(6, 4, 0);
        x.errand(0, 2);
        x.row(0, 0, 7);
        x.lose(2, true);
        x.swap(0, 2);
        x.cross(0, 0);
        x.pass(2);
        city(x, "dark 3");
        x.see(0, 1, 1);
        x.plan(0, 0);
        x.book(0, 0);
        due("image", x.image(), 1);
        x.one(6, 0, 0);
        x.row(1, 1, 5);
        x.errand(1, 5);
        x.row(1, 0, 9);
        due("half", x.cross(1, 0), 1);
        x.cross(0, 1);
        x.bridge(0, 5);
        x.errand(0, -1);
        x.row(0, 0, 1);
        x.lose(2, false);
        x.lose(5, true);
        x.swap(0, 2);
        x.row(0, 1, 9);
        x.cross(0, 1);
        x.pass(2);
        city(x, "dark 4");
        x.see(-1, 0, 0);
        x.plan(-1, 0);
        x.book(-1, 0);
        x.see(1, 5, 5);
        x.plan(3, 1);
        x.plan(3, 1);
        x.book(1, 5);
        x.feed(100);
        x.tape(2, 0, 2);
        for (int again = 0; again < 2; again++) {
            due("undo", x.undo(), 1);
            due("people", x.count(0), 1);
            due("bridges", x.count(1), 5);
            due("no sister", x.span(4, 2), -5);
            due("sister", x.span(0, 2), 3);
            due("lost", x.told(4), 4);
            due("hour", x.told(0), 2);
            due("dark", x.told(1), 3);
            due("errand", x.of(0, 4), 2);
            due("at", x.of(0, 2), 1);
            due("half", x.of(0, 5), 1);
            due("seen, plan, book", x.count(3) * 100 + x.count(4) * 10 + x.count(5), 111);
            due("what is seen", x.from(0), 2);
            due("the plan", x.ends(1), 1);
            due("the book", x.looked(), -5);
            due("said", x.of(0, 3), 0);
            due("row", x.row(0, 0, 7), 7);
            due("row", x.row(0, 1, 0), 0);
        }
        due("cities stay", x.count(2), 2);
        due("the text stays", x.count(6), 1);
        due("tapes stay", x.read(2, 0), 0);
        due("one anew", x.one(6, 1, 1), 1);
        due("with nothing", x.of(1, 4) + x.of(1, 5) + x.row(1, 1, 0), -5);
        x.bridge(1, 0);
        due("a bridge anew", x.span(5, 3) * 10 + x.span(5, 2), 4);
        BridgePairs y = new BridgePairs();
        y.image();
        city(y, "dark 9");
        y.undo();
        due("no city holds", y.told(1), 0);
        due("the next number", city(y, "dark 8"), 1);
    }

    static void promise30() {
        BridgePairs x = new BridgePairs();
        for (int kind : new int[] {0, 1, 2, 4, 5, 6}) x.one(kind, 5, 0);
        // ONE 0, LOVER 1, TWIN 2, ENVOY 3, WIDOW 4, TOLD 5
        due("one waits", x.act(0, 0, 7), 7);
        due("one crosses", x.act(0, 1, 7), 2);
        due("one tells", x.act(0, 2, 7), 4);
        due("lover crosses", x.act(1, 1, 7), (8 - 5) ^ 6);
        due("lover tells", x.act(1, 2, 7), ((8 - 5) ^ 6) * 2);
        due("twin waits", x.act(2, 0, 7), 23);
        due("twin crosses", x.act(2, 1, 7), 18);
        due("envoy waits", x.act(3, 0, 7), -10);
        due("envoy crosses", x.act(3, 1, 7), (-11 - 5) ^ 6);
        due("widow tells", x.act(4, 2, 7), ((7 - 4) * 3 + 4 - 5) * 2);
        due("told waits", x.act(5, 0, 7), 12 ^ 5);
        due("told crosses", x.act(5, 1, 7), (12 ^ 5) - 5 + 7);
        due("told tells", x.act(5, 2, 7), ((12 ^ 5) - 5 + 7) * 2 + (6 ^ 5) - 5 + 7);
        due("wraps", x.act(2, 0, MAX), MAX * 3 + 2);
        due("no such one", x.act(6, 0, 7), 0);
        due("no trace then", x.count(7), 0);
        x.act(0, 0, 7);
        due("no such act", x.act(0, 3, 7), 0);
        due("no trace then", x.trace(0), -1);
        due("no such act", x.act(0, -1, 7), 0);
        x.act(0, 0, 7);
        due("no such act", x.act(1, 3, 7), 0);
        due("no trace then", x.count(7), 0);
        BridgePairs y = new BridgePairs();
        y.one(3, 5, 0);
        due("debtor tells", y.act(0, 2, 7), (7 - 5) * 2 + 1 - 5);
    }

    static void promise31() {
        BridgePairs x = new BridgePairs();
        x.one(6, 5, 0);
        x.one(4, 5, 0);
        x.one(5, 5, 0);
        due("none", x.trace(0), -1);
        x.act(0, 2, 1);
        trace(x, 40, 12, 70, 11, 71, 10, 10, 70, 11, 71, 10, 10);
        x.act(1, 2, 1);
        trace(x, 12, 51, 20, 11, 50, 10);
        x.act(2, 2, 1);
        trace(x, 60, 12, 11, 30, 10);
        due("none", x.trace(-1), -1);
        due("none", x.trace(20), -1);
    }

    private static void trace(BridgePairs x, int... bodies) {
        for (int i = 0; i < bodies.length; i++) due("body " + i, x.trace(i), bodies[i]);
        due("no more", x.trace(bodies.length), -1);
        due("all", x.count(7), bodies.length);
    }

    static void promise32() {
        String[] under = {"0", "01", "02", "03", "014", "025", "036"};
        for (int kind = 0; kind < 7; kind++) {
            BridgePairs x = new BridgePairs();
            x.one(kind, 0, 0);
            for (int k = 0; k < 7; k++) {
                due(kind + " for " + k, x.taken(0, k), under[kind].indexOf('0' + k) >= 0 ? kind : -12);
            }
            due("bad", x.taken(0, 7), -2);
            due("bad ahead of nothing", x.taken(1, -1), -2);
            due("nothing", x.taken(1, 0), -11);
            due("nothing", x.taken(-1, 0), -11);
        }
    }

    static void promise33() {
        BridgePairs x = roadWith(1, 0);
        x.one(0, 0, 0);
        city(x, "dark 1");
        x.see(0, 0, 0);
        for (int i = 0; i < 2; i++) x.plan(0, 0);
        for (int i = 0; i < 3; i++) x.book(0, 0);
        for (int i = 0; i < 5; i++) x.feed(1);
        x.act(0, 1, 1);
        int[] counts = {2, 4, 1, 1, 2, 3, 5, 3};
        for (int i = 0; i < 8; i++) due("count " + i, x.count(i), counts[i]);
        due("bad", x.count(8), -2);
        due("bad", x.count(-1), -2);
    }

    static void promise34() {
        BridgePairs x = new BridgePairs();
        due("none", x.tape(6, 0, 0), -1);
        due("none ahead of bad", x.tape(-1, 9, 0), -1);
        due("bad", x.tape(0, 5, 0), -2);
        due("bad", x.tape(0, -2, 0), -2);
        due("bad", x.tape(0, 0, 61), -2);
        due("bad ahead of size", x.tape(0, 5, -1), -2);
        due("size", x.tape(0, 0, -1), -14);
        due("nothing yet", x.item(0, 0, 0), -11);
        due("sixty", x.tape(0, 3, 60), 1);
        due("all 0", x.read(0, 59), 0);
        x.item(0, 59, 4);
        due("size keeps it", x.tape(0, 0, MIN), -14);
        due("kept", x.read(0, 59), 4);
        due("again", x.tape(0, 3, 60), 1);
        due("all 0", x.read(0, 59), 0);
        due("of none", x.tape(0, 2, 0), 1);
        due("no place", x.item(0, 0, 0), -13);
        due("nothing", x.tape(0, -1, MIN), 1);
        due("nothing", x.item(0, 0, 0), -11);
        due("nothing", x.tape(0, -1, MAX), 1);
    }

    static void promise35() {
        BridgePairs x = new BridgePairs();
        long v = 0x123456789ABCDEFL;
        long[] kept = {(byte) v, (short) v, (int) v, v, 1};
        for (int sort = 0; sort < 5; sort++) {
            x.tape(sort, sort, 3);
            due("item", x.item(sort, 2, v), 1);
            due("kept", x.read(sort, 2), kept[sort]);
            due("item", x.item(sort, 2, 0), 1);
            due("kept", x.read(sort, 2), 0);
            due("place", x.item(sort, 3, 0), -13);
            due("place", x.item(sort, -1, 0), -13);
        }
        due("a far bit", x.item(4, 0, NO), 1);
        due("is not 0", x.read(4, 0), 1);
        due("nothing", x.item(5, -1, 0), -11);
        due("none", x.item(6, 0, 0), -1);
        due("none", x.item(-1, 0, 0), -1);
    }

    static void promise36() {
        BridgePairs x = new BridgePairs();
        x.tape(0, 0, 2);
        x.item(0, 1, 255);
        due("read", x.read(0, 1), -1);
        due("no such place", x.read(0, 2), NO);
        due("no such place", x.read(0, -1), NO);
        due("nothing there", x.read(1, 0), NO);
        due("no such tape", x.read(6, 0), NO);
        due("no such tape", x.read(-1, 0), NO);
    }

    static void promise37() {
        BridgePairs x = new BridgePairs();
        x.tape(0, 2, 5);
        for (int i = 0; i < 5; i++) x.item(0, i, i + 1);
        due("to the same, behind", x.shift(0, 0, 0, 1, 4), 4);
        row(x, 0, 1, 1, 2, 3, 4);
        due("to the same, ahead", x.shift(0, 2, 0, 0, 3), 3);
        row(x, 0, 2, 3, 4, 3, 4);
        x.tape(1, 2, 2);
        due("to another", x.shift(0, 1, 1, 0, 2), 2);
        row(x, 1, 3, 4);
        due("none of them", x.shift(0, 5, 1, 2, 0), 0);
        due("beyond", x.shift(0, 6, 1, 0, 0), -13);
        due("beyond", x.shift(0, 0, 1, 3, 0), -13);
        due("beyond the other", x.shift(0, 0, 1, 0, 3), -13);
        due("beyond the one", x.shift(1, 1, 0, 0, 2), -13);
        due("below", x.shift(0, -1, 1, 0, 1), -13);
        due("below", x.shift(0, 0, 1, -1, 1), -13);
        due("below", x.shift(0, 0, 1, 0, -1), -13);
        due("wraps", x.shift(0, MAX, 1, 0, MAX), -13);
        due("wraps", x.shift(0, 1, 1, 1, MAX), -13);
        row(x, 1, 3, 4);
        x.tape(2, 3, 5);
        due("cast ahead of place", x.shift(0, -1, 2, 0, 1), -12);
        due("nothing", x.shift(0, 0, 3, 0, 1), -11);
        due("nothing", x.shift(3, 0, 0, 0, 1), -11);
        due("none", x.shift(0, 0, 6, 0, 1), -1);
        due("none ahead of nothing", x.shift(3, 0, -1, 0, 1), -1);
        due("none", x.shift(-1, 0, 0, 0, 1), -1);
    }

    private static void row(BridgePairs x, int tape, long... items) {
        for (int i = 0; i < items.length; i++) due("item " + i, x.read(tape, i), items[i]);
    }

    // ---- the terms

    private static void crossing() {
        BridgePairs x = bridges(0, 1, 1, 0, 0, 1, 1, 0, 0, 2);
        x.one(0, 0, 0);
        x.cross(0, 0);
        x.cross(0, 2);
        due("two are half", x.of(0, 5), 5);
        x.swap(0, 3);
        due("they are sisters", x.span(0, 2), 2);
        x.cross(0, 0);
        due("the sister is half no more", x.of(0, 5), 1);
        x.cross(0, 0);
        due("by the same again", x.of(0, 5), 0);
        due("said", x.of(0, 3), 0);
        x.cross(0, 4);
        due("without a sister", x.of(0, 5), 16);
        due("at", x.of(0, 2), 2);
        due("said", x.of(0, 3), 0);
        x.cross(0, 4);
        due("back", x.of(0, 5), 0);
    }

    private static void leave() {
        int[] due = {3, 3 + 7, 1, 3, 3 + 7, 3, 3 - 4};
        for (int kind = 0; kind < 7; kind++) {
            BridgePairs x = roadWith(kind, 7);
            due("leave of " + kind, x.of(0, 10), due[kind]);
        }
        BridgePairs x = roadWith(2, 0);
        city(x, "bar 8 p=0");
        due("cut toward 0", x.of(0, 10), -2);
        city(x, "grant 5 p=0&k=2&v=0&b=1&n=0&h=0;bar 2 b>1|h<0|!b<3;grant 50 b=1&b=2|b=3&(b=0|b=3)");
        due("3", x.of(0, 10), 1);
        due("3 and 5", x.of(0, 11), 4);
        due("3 less 2", x.of(0, 12), 0);
        due("3 less 2 and 50", x.of(0, 13), 25);
        city(x, "grant 20 p=0&(p=0|p<0)");
        due("p is not below 0", x.of(0, 10), 11);
        letters();
        BridgePairs y = bridges(0, 1, 1, 2, 1, 0, 0, 2, 0, 2, 0, 1, 0, 3);
        y.one(4, 9, 0);
        y.one(3, 0, 0);
        for (int p = 0; p < 2; p++) y.cross(p, 0);
        due("a debtor with one", y.of(1, 10), 1);
        y.cross(0, 2);
        due("an envoy with two", y.of(0, 10), 12);
        y.cross(0, 4);
        due("three are half", y.of(0, 5), 1 | 4 | 16);
        due("an envoy with three", y.of(0, 10), 0);
        due("none to cross", y.of(0, 8), 0);
        y.cross(1, 2);
        due("a debtor with two", y.of(1, 10), -1);
    }

    private static void letters() {
        BridgePairs x = bridges(0, 1, 0, 1, 0, 1, 0, 1, 0, 1, 0, 1, 0, 1, 0, 1);
        for (int kind : new int[] {6, 5, 4, 1}) x.one(kind, kind + 2, 0);
        for (int b = 0; b < 8; b++) {
            due("a lover", x.of(3, 10 + b), b % 2 == 0 ? 6 : 1);
            due("an envoy", x.of(2, 10 + b), b % 2 == 0 ? 9 : 4);
        }
        city(x, "grant 40 p=1&v=7&k=5&n=0&b=6;grant 20 p=0&v=8&k=6&n=2&b=4");
        due("a widow", x.of(1, 16), 43 / 2 + 2);
        due("a widow", x.of(1, 15), 3);
        for (int part = 0; part < 4; part++) x.row(0, part, 5 + part);
        x.cross(0, 0);
        x.cross(0, 2);
        due("two are half", x.of(0, 5), 5);
        for (int b = 0; b < 8; b++) due("told", x.of(0, 10 + b), (b == 4 ? 23 : 3) - 2 * 2 + 5 + b % 4 - 4);
    }

    private static void dark() {
        BridgePairs x = roadWith(0, 0);
        x.errand(0, 2);
        city(x, "dark 3");
        due("done", x.of(0, 7), 5);
        x.pass(3);
        due("at", x.of(0, 2), 0);
        x.pass(1);
        due("at", x.of(0, 2), 1);
        x.errand(0, 0);
        city(x, "bar 9 h=4");
        due("no way at this hour", x.way(0, 2, -1), -5);
        x.pass(1);
        due("waited", x.of(0, 2), 1);
        due("a way now", x.way(0, 0, -1), 1);
        city(x, "dark 99");
        due("dark for ever", x.of(0, 7), -5);
        BridgePairs y = roadWith(0, 0);
        y.errand(0, 2);
        city(y, "dark 9");
        due("at twenty", y.of(0, 7), 20);
        y.cross(0, 0);
        y.pass(9);
        y.errand(0, 4);
        due("at twenty-one", y.of(0, 7), -5);
        y.pass(4);
        city(y, "dark 3");
        due("hour 13 is not dark", y.on(1, 10), 3);
        y.pass(5);
        city(y, "grant 7 h=8");
        due("hour 18", y.of(0, 10), 10);
    }

    private static void questionsChangeNothing() {
        BridgePairs x = roadWith(6, 3);
        x.one(1, 5, 2);
        x.row(0, 1, 8);
        x.errand(0, 3);
        x.errand(1, 0);
        x.cross(1, 2);
        x.see(0, 3, 2);
        x.plan(0, 0);
        x.plan(1, 1);
        x.plan(3, 1);
        x.book(0, 0);
        String before = all(x);
        for (int p = 0; p < 2; p++) {
            for (int q = 0; q < 6; q++) {
                x.way(p, q, 0);
                x.sisters(p, q);
                x.odds(p, q, 0);
            }
            x.from(p);
            x.can(p, 0);
            x.on(12, 10 + p);
        }
        x.ends(0);
        x.looked();
        x.judge(0, 0);
        x.mean(0);
        x.taken(0, 0);
        due("all is as before", all(x).equals(before) ? 1 : 0, 1);
    }

    private static String all(BridgePairs x) {
        StringBuilder s = new StringBuilder();
        for (int p = 0; p < 2; p++) for (int what = 0; what < 18; what++) s.append(x.of(p, what)).append(' ');
        for (int b = 0; b < 4; b++) for (int what = 0; what < 4; what++) s.append(x.span(b, what)).append(' ');
        for (int i = 0; i < 8; i++) s.append(x.count(i)).append(' ').append(x.told(i)).append(' ');
        return s.toString();
    }

    private static void wildArguments() throws Exception {
        int[] wild = {MIN, MIN + 1, -100, -2, -1, 0, 1, 5, 6, 7, 8, 59, 60, 61, 127, 128, MAX - 1, MAX};
        java.util.Random random = new java.util.Random(7);
        for (Method m : BridgePairs.class.getDeclaredMethods()) {
            if (!java.lang.reflect.Modifier.isPublic(m.getModifiers())) continue;
            for (int run = 0; run < 300; run++) {
                BridgePairs x = roadWith(6, 3);
                x.errand(0, 4);
                x.tape(0, 1, 60);
                Class<?>[] types = m.getParameterTypes();
                Object[] args = new Object[types.length];
                for (int i = 0; i < args.length; i++) {
                    int n = wild[random.nextInt(wild.length)];
                    if (types[i] == boolean.class) args[i] = n > 0;
                    else if (types[i] == long.class) args[i] = (long) n;
                    else args[i] = n;
                }
                // It throws out of here if the call throws.
                m.invoke(x, args);
            }
        }
    }
}
