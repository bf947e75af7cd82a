import java.util.ArrayList;
import java.util.HashMap;
import java.util.HashSet;
import java.util.List;
import java.util.Map;
import java.util.Set;
import java.util.function.Function;
import java.util.regex.Matcher;
import java.util.regex.Pattern;

/**
 * The document once more, in another way: cities stay texts (a regular expression finds the
 * fault), ways are looked for depth first, kinds are classes, an image is a copy of objects.
 * It is slow and makes objects freely; OracleTest holds BridgePairs against it.
 */
final class Oracle {
    static final int NONE = -1, BAD = -2, STATE = -3, FULL = -4, NOTHING = -11, CAST = -12, PLACE = -13, SIZE = -14;
    static final long NO = Long.MIN_VALUE;
    static final Pattern CITY = Pattern.compile(cityPattern());

    static String cityPattern() {
        String test = "[pkvbnh][<=>][0-9]{1,2}";
        String factor = test;
        for (int depth = 0; depth < 4; depth++) {
            factor = "(?:" + test + "|!" + factor + "|\\(" + expression(factor) + "\\))";
        }
        String clause = "(?:(?:grant|bar) [0-9]{1,2} " + expression(factor) + "|dark [0-9]{1,2})";
        return clause + "(?:;" + clause + "){0,9}";
    }

    static String expression(String factor) {
        String term = factor + "(?:&" + factor + ")*";
        return term + "(?:\\|" + term + ")*";
    }

    record Bridge(int one, int other, boolean lost) { }
    record Row(int a, int b, int c) { }

    static class One {
        int number, v, at, said, errand = -5;
        Set<Integer> half = new HashSet<>();
        int[] row = new int[4];
        List<Integer> trace = new ArrayList<>();

        int kind() { return 0; }
        int leave(int sum, int b) { return sum; }
        boolean goesOverLost() { return false; }
        One same() { return new One(); }

        One copy() {
            One c = same();
            c.number = number; c.v = v; c.at = at; c.said = said; c.errand = errand;
            c.half = new HashSet<>(half); c.row = row.clone();
            return c;
        }
        boolean isIn(int q) { return at == q && half.isEmpty(); }
        boolean isDone() { return errand >= 0 && isIn(errand); }

        int waits(int x) { trace.add(10); return x + number; }
        int crosses(int x) { trace.add(11); return waits(x) - v; }
        int tells(int x) { trace.add(12); return crosses(x) * 2; }
    }

    static class Lover extends One {
        @Override int kind() { return 1; }
        @Override int leave(int sum, int b) { return b % 2 == 1 ? sum + v - 5 : sum + v; }
        @Override One same() { return new Lover(); }
        @Override int crosses(int x) { trace.add(20); return super.crosses(x) ^ 6; }
    }

    static class Twin extends One {
        @Override int kind() { return 2; }
        @Override int leave(int sum, int b) { return sum < 0 ? -(-sum / 2) : sum / 2; }
        @Override One same() { return new Twin(); }
        @Override int waits(int x) { trace.add(30); return super.waits(x * 3); }
    }

    static class Debtor extends One {
        @Override int kind() { return 3; }
        @Override int leave(int sum, int b) { return sum - half.size() - half.size(); }
        @Override One same() { return new Debtor(); }
        @Override int tells(int x) { trace.add(40); return super.tells(x) + crosses(1); }
    }

    static class Envoy extends Lover {
        @Override int kind() { return 4; }
        @Override int leave(int sum, int b) { return half.size() >= 3 ? 0 : super.leave(sum, b); }
        @Override One same() { return new Envoy(); }
        @Override int waits(int x) { trace.add(50); return -super.waits(x); }
        @Override int crosses(int x) { trace.add(51); return super.crosses(x + 1); }
    }

    static class Widow extends Twin {
        @Override int kind() { return 5; }
        @Override int leave(int sum, int b) { return super.leave(sum, b) + 2; }
        @Override boolean goesOverLost() { return true; }
        @Override One same() { return new Widow(); }
        @Override int tells(int x) { trace.add(60); return super.tells(x - number); }
    }

    static class Told extends Debtor {
        @Override int kind() { return 6; }
        @Override int leave(int sum, int b) { return super.leave(sum, b) + row[b % 4] - 4; }
        @Override One same() { return new Told(); }
        @Override int crosses(int x) { trace.add(70); return super.crosses(x) + super.waits(2); }
        @Override int waits(int x) { trace.add(71); return super.waits(x) ^ v; }
    }

    static One newOne(int kind) {
        return switch (kind) {
            case 0 -> new One();
            case 1 -> new Lover();
            case 2 -> new Twin();
            case 3 -> new Debtor();
            case 4 -> new Envoy();
            case 5 -> new Widow();
            default -> new Told();
        };
    }

    static boolean isUnder(int kind, int k) {
        Class<?> top = newOne(k).getClass();
        return top.isInstance(newOne(kind));
    }

    /** A number of one sign of a test; the text is known to be right. */
    static boolean holds(String e, Map<Character, Integer> facts) {
        List<String> parts = splitOutside(e, '|');
        if (parts.size() > 1) return parts.stream().anyMatch(t -> holds(t, facts));
        parts = splitOutside(e, '&');
        if (parts.size() > 1) return parts.stream().allMatch(t -> holds(t, facts));
        if (e.startsWith("!")) return !holds(e.substring(1), facts);
        if (e.startsWith("(")) return holds(e.substring(1, e.length() - 1), facts);
        int fact = facts.get(e.charAt(0));
        int n = Integer.parseInt(e.substring(2));
        return e.charAt(1) == '<' ? fact < n : e.charAt(1) == '=' ? fact == n : fact > n;
    }

    static List<String> splitOutside(String e, char at) {
        List<String> parts = new ArrayList<>();
        int open = 0;
        StringBuilder part = new StringBuilder();
        for (char c : e.toCharArray()) {
            if (c == '(') open++;
            if (c == ')') open--;
            if (c == at && open == 0) {
                parts.add(part.toString());
                part.setLength(0);
            } else {
                part.append(c);
            }
        }
        parts.add(part.toString());
        return parts;
    }

    /** All that an image holds. */
    static final class World {
        List<Bridge> bridges = new ArrayList<>();
        Map<Integer, Integer> sisters = new HashMap<>();
        List<One> people = new ArrayList<>();
        List<Row> seen = new ArrayList<>(), plan = new ArrayList<>(), book = new ArrayList<>();
        int hour;
        String city = "";

        World copy() {
            World w = new World();
            w.bridges.addAll(bridges);
            w.sisters.putAll(sisters);
            for (One one : people) w.people.add(one.copy());
            w.seen.addAll(seen); w.plan.addAll(plan); w.book.addAll(book);
            w.hour = hour; w.city = city;
            return w;
        }

        String[] clauses() { return city.isEmpty() ? new String[0] : city.split(";"); }

        int dark() {
            int dark = 0;
            for (String c : clauses()) if (c.startsWith("dark ")) dark = Integer.parseInt(c.substring(5));
            return dark;
        }

        private static final Map<String, Integer> SUMS = new HashMap<>();

        int sum(One one, int b) {
            String key = city + "/" + one.number + one.kind() + one.v + b + one.half.size() + hour % 10;
            Integer known = SUMS.get(key);
            if (known != null) return known;
            Map<Character, Integer> facts = Map.of('p', one.number, 'k', one.kind(), 'v', one.v,
                'b', b, 'n', one.half.size(), 'h', hour % 10);
            int sum = 3;
            for (String c : clauses()) {
                String[] parts = c.split(" ");
                if (parts.length == 3 && holds(parts[2], facts)) {
                    sum += Integer.parseInt(parts[1]) * (parts[0].equals("grant") ? 1 : -1);
                }
            }
            if (SUMS.size() > 500000) SUMS.clear();
            SUMS.put(key, sum);
            return sum;
        }

        boolean ends(int b, int q) { return bridges.get(b).one == q || bridges.get(b).other == q; }

        boolean may(One one, int b) {
            return ends(b, one.at) && (!bridges.get(b).lost || one.goesOverLost()) && one.leave(sum(one, b), b) >= 1;
        }

        void lose(int b, boolean is) {
            Bridge old = bridges.get(b);
            bridges.set(b, new Bridge(old.one, old.other, is));
        }

        void goOver(One one, int b) {
            Bridge bridge = bridges.get(b);
            one.at = bridge.one + bridge.other - one.at;
            Integer sister = sisters.get(b);
            if (sister != null && one.half.contains(sister)) one.half.remove(sister);
            else if (!one.half.remove(b)) one.half.add(b);
            if (one.half.isEmpty()) one.said = one.at;
        }

        /** The shortest way, or null. */
        List<Integer> way(One one, int q) {
            Set<String> failed = new HashSet<>();
            for (int length = 0; length <= 12; length++) {
                List<Integer> steps = new ArrayList<>();
                if (goes(one.copy(), q, length, steps, failed)) return steps;
            }
            return null;
        }

        boolean goes(One one, int q, int left, List<Integer> steps, Set<String> failed) {
            if (left == 0) return one.isIn(q);
            String key = one.at + " " + one.half + " " + left;
            if (failed.contains(key)) return false;
            for (int b = 0; b < bridges.size(); b++) {
                if (!may(one, b)) continue;
                One next = one.copy();
                goOver(next, b);
                steps.add(b);
                if (goes(next, q, left - 1, steps, failed)) return true;
                steps.remove(steps.size() - 1);
            }
            failed.add(key);
            return false;
        }

        int length(int p, int q) {
            List<Integer> way = way(people.get(p), q);
            return way == null ? -5 : way.size();
        }

        void hour() {
            if (hour % 10 >= dark()) {
                for (One one : people) {
                    if (one.errand < 0 || one.isDone()) continue;
                    List<Integer> way = way(one, one.errand);
                    if (way != null) goOver(one, way.get(0));
                }
            }
            hour++;
        }

        World behind(int n) {
            World w = copy();
            for (int i = 0; i < n; i++) w.hour();
            return w;
        }

        boolean exchange(int a, int b) {
            Integer c = sisters.get(a), d = sisters.get(b);
            if (a == b || c == null || d == null || c == b) return false;
            sisters.put(a, d); sisters.put(d, a);
            sisters.put(b, c); sisters.put(c, b);
            return true;
        }

        int arrived() {
            int bits = 0;
            for (One one : people) if (one.isDone()) bits |= 1 << one.number;
            return bits;
        }

        int halves() { return people.stream().mapToInt(o -> o.half.size()).sum(); }

        boolean isAsSeen(int p) {
            List<World> worlds = new ArrayList<>();
            for (Row row : seen) {
                if (row.a != p) continue;
                while (worlds.size() <= row.b) worlds.add(worlds.isEmpty() ? copy() : worlds.get(worlds.size() - 1).behind(1));
                if (worlds.get(row.b).people.get(p).at != row.c) return false;
            }
            return true;
        }

        /** The same with one person alone, who keeps its number's place. */
        World alone(int p) {
            World w = copy();
            for (One one : w.people) if (one.number != p) one.errand = -5;
            return w;
        }
    }

    World now = new World();
    World image;
    int cities;
    StringBuilder text = new StringBuilder();
    List<Integer> trace = new ArrayList<>();
    int[] sorts = {-1, -1, -1, -1, -1, -1};
    long[][] tapes = new long[6][0];

    static boolean in(int n, int size) { return n >= 0 && n < size; }
    boolean isP(int p) { return in(p, now.people.size()); }
    boolean isB(int b) { return in(b, now.bridges.size()); }
    static boolean isQ(int q) { return in(q, 6); }
    static int bits(Set<Integer> set) { return set.stream().mapToInt(b -> 1 << b).sum(); }

    public int bridge(int one, int other) {
        if (!isQ(one) || !isQ(other)) return NONE;
        if (one == other) return BAD;
        int n = now.bridges.size();
        if (n == 8) return FULL;
        now.bridges.add(new Bridge(one, other, false));
        now.sisters.remove(n);
        if (n % 2 == 1) { now.sisters.put(n, n - 1); now.sisters.put(n - 1, n); }
        return n;
    }

    public int one(int kind, int v, int quarter) {
        if (!in(kind, 7) || !isQ(quarter)) return NONE;
        if (!in(v, 10)) return BAD;
        if (now.people.size() == 6) return FULL;
        One one = newOne(kind);
        one.number = now.people.size(); one.v = v; one.at = quarter; one.said = quarter;
        now.people.add(one);
        return one.number;
    }

    public int of(int person, int what) {
        if (!isP(person)) return -10001;
        One one = now.people.get(person);
        switch (what) {
            case 0: return one.kind();
            case 1: return one.v;
            case 2: return one.at;
            case 3: return one.said;
            case 4: return one.errand;
            case 5: return bits(one.half);
            case 6: {
                int reach = 0;
                for (int q = 0; q < 6; q++) if (now.way(one, q) != null) reach |= 1 << q;
                return reach;
            }
            case 7: {
                World w = now.alone(person);
                for (int n = 0; n <= 20; n++) {
                    if (w.people.get(person).isDone()) return n;
                    w.hour();
                }
                return -5;
            }
            case 8: {
                int may = 0;
                for (int b = 0; b < now.bridges.size(); b++) if (now.may(one, b)) may |= 1 << b;
                return may;
            }
            default: {
                long b = (long) what - 10;
                if (b < 0 || b >= now.bridges.size()) return -10001;
                return one.leave(now.sum(one, (int) b), (int) b);
            }
        }
    }

    public int span(int bridge, int what) {
        if (!isB(bridge) || !in(what, 4)) return NONE;
        Bridge b = now.bridges.get(bridge);
        return what == 0 ? b.one : what == 1 ? b.other : what == 2 ? now.sisters.getOrDefault(bridge, -5) : b.lost ? 1 : 0;
    }

    public int errand(int person, int quarter) {
        if (!isP(person) || quarter != -1 && !isQ(quarter)) return NONE;
        One one = now.people.get(person);
        int was = one.errand;
        one.errand = quarter < 0 ? -5 : quarter;
        return was;
    }

    public int cross(int person, int bridge) {
        if (!isP(person) || !isB(bridge)) return NONE;
        One one = now.people.get(person);
        if (!now.may(one, bridge)) return STATE;
        now.goOver(one, bridge);
        return one.at;
    }

    public int lose(int bridge, boolean is) {
        if (!isB(bridge)) return NONE;
        boolean was = now.bridges.get(bridge).lost;
        now.lose(bridge, is);
        return was ? 1 : 0;
    }

    public int swap(int one, int other) {
        if (!isB(one) || !isB(other)) return NONE;
        return now.exchange(one, other) ? now.sisters.get(one) : STATE;
    }

    public int row(int person, int part, int n) {
        if (!isP(person) || !in(part, 4)) return NONE;
        if (!in(n, 10)) return BAD;
        if (!(now.people.get(person) instanceof Told told)) return STATE;
        int was = told.row[part];
        told.row[part] = n;
        return was;
    }

    public int feed(int sign) {
        if (!in(sign, 128)) return BAD;
        if (text.length() == 100) return FULL;
        text.append((char) sign);
        return text.length();
    }

    static int fault(String s) {
        for (int i = 1; i <= s.length(); i++) {
            Matcher m = CITY.matcher(s.substring(0, i));
            if (!m.matches() && !m.hitEnd()) return i - 1;
        }
        return CITY.matcher(s).matches() ? -1 : s.length();
    }

    public int city() {
        if (cities == 6) return FULL;
        String s = text.toString();
        text.setLength(0);
        int fault = fault(s);
        if (fault >= 0) return -10 - fault;
        now.city = s;
        return cities++;
    }

    public int told(int what) {
        switch (what) {
            case 0: return now.hour;
            case 1: return now.dark();
            case 2: return now.arrived();
            case 3: return now.halves();
            case 4: {
                int lost = 0;
                for (int b = 0; b < now.bridges.size(); b++) if (now.bridges.get(b).lost) lost += 1 << b;
                return lost;
            }
            default: return NONE;
        }
    }

    public int pass(int n) {
        if (!in(n, 13)) return BAD;
        if (now.hour + n > 9999) return STATE;
        for (int i = 0; i < n; i++) now.hour();
        return now.hour;
    }

    public int on(int n, int what) {
        boolean ofOne = what >= 10 && what < 40 && isP(what % 10);
        if (what != 0 && !ofOne) return NONE;
        if (!in(n, 13)) return BAD;
        World w = now.behind(n);
        if (what == 0) return w.arrived();
        One one = w.people.get(what % 10);
        return what < 20 ? one.at : what < 30 ? one.said : bits(one.half);
    }

    public int way(int person, int quarter, int k) {
        if (!isP(person) || !isQ(quarter) || k < -1 || k > 11) return NONE;
        List<Integer> way = now.way(now.people.get(person), quarter);
        if (way == null) return -5;
        return k == -1 ? way.size() : k < way.size() ? way.get(k) : -5;
    }

    public int sisters(int person, int quarter) {
        if (!isP(person) || !isQ(quarter)) return NONE;
        Function<Integer, Integer> far = n -> n == -5 ? 1000 : n;
        int asIs = far.apply(now.length(person, quarter));
        int least = 1000, best = -5;
        for (int pair = 1; pair < 78; pair++) {
            int a = pair / 10, b = pair % 10;
            if (a >= b || !isB(b)) continue;
            World w = now.copy();
            if (!w.exchange(a, b)) continue;
            int length = far.apply(w.length(person, quarter));
            if (length < least) { least = length; best = pair; }
        }
        return least < asIs ? best : -5;
    }

    public int see(int person, int n, int quarter) {
        if (person == -1) { now.seen.clear(); return 0; }
        if (!isP(person) || !isQ(quarter)) return NONE;
        if (!in(n, 9)) return BAD;
        if (now.seen.size() == 5) return FULL;
        now.seen.add(new Row(person, n, quarter));
        return now.seen.size();
    }

    public int from(int person) {
        if (!isP(person)) return NONE;
        int from = 0;
        for (int q = 0; q < 6; q++) {
            World w = now.alone(person);
            w.people.get(person).at = q;
            if (w.isAsSeen(person)) from |= 1 << q;
        }
        return from;
    }

    public int can(int person, int what) {
        if (!isP(person) || !in(what, 2)) return NONE;
        List<Integer> fit = new ArrayList<>();
        for (int v = 0; v < 10; v++) {
            World w = now.alone(person);
            w.people.get(person).v = v;
            if (w.isAsSeen(person)) fit.add(v);
        }
        return what == 0 ? fit.size() : fit.isEmpty() ? -5 : fit.get(0);
    }

    static int gcd(int a, int b) { return b == 0 ? a : gcd(b, a % b); }

    public long odds(int person, int quarter, int part) {
        int all = now.bridges.size();
        if (!isP(person) || !isQ(quarter) || !in(part, 2) || all == 0) return NO;
        int good = 0;
        for (int b = 0; b < all; b++) {
            World w = now.copy();
            w.lose(b, true);
            if (w.length(person, quarter) >= 0) good++;
        }
        return (part == 0 ? good : all) / gcd(good, all);
    }

    public long mean(int part) {
        int all = now.people.size();
        if (!in(part, 2) || all == 0) return NO;
        return (part == 0 ? now.halves() : all) / gcd(now.halves(), all);
    }

    public int plan(int what, int n) {
        if (what == -1) { now.plan.clear(); return 0; }
        if (!in(what, 4)) return NONE;
        if ((what == 1 || what == 2) && !isB(n) || what == 3 && !isP(n)) return NONE;
        if (now.plan.size() == 8) return FULL;
        now.plan.add(new Row(what, n, 0));
        return now.plan.size();
    }

    public int ends(int what) {
        if (!in(what, 2)) return NONE;
        World w = now.copy();
        for (Row row : now.plan) {
            if (row.a == 0) w.hour();
            else if (row.a == 3) w.people.get(row.b).errand = -5;
            else w.lose(row.b, row.a == 1);
        }
        return what == 0 ? w.arrived() : w.halves();
    }

    public int book(int person, int quarter) {
        if (person == -1) { now.book.clear(); return 0; }
        if (!isP(person) || !isQ(quarter)) return NONE;
        if (now.book.size() == 8) return FULL;
        now.book.add(new Row(person, quarter, 0));
        return now.book.size();
    }

    public int looked() {
        for (Row row : now.book) if (now.people.get(row.a).said != row.b) return now.book.indexOf(row);
        return -5;
    }

    public int judge(int tape, int i) {
        if (!in(tape, 6)) return NONE;
        if (sorts[tape] != -1 && sorts[tape] != 1) return CAST;
        if (now.people.isEmpty()) return -5;
        if (sorts[tape] == -1 || i < 0) return 100;
        for (One one : now.people) {
            long place = (long) i + one.number;
            if (place >= tapes[tape].length) return 100 + one.number;
            if (tapes[tape][(int) place] != bits(one.half)) return one.number;
        }
        return -5;
    }

    public int image() {
        image = now.copy();
        return now.people.size();
    }

    public int undo() {
        if (image == null) return STATE;
        now = image.copy();
        return now.people.size();
    }

    public int act(int person, int act, int x) {
        trace = new ArrayList<>();
        if (!isP(person) || !in(act, 3)) return 0;
        One one = now.people.get(person).copy();
        one.trace = trace;
        return act == 0 ? one.waits(x) : act == 1 ? one.crosses(x) : one.tells(x);
    }

    public int trace(int i) { return in(i, Math.min(20, trace.size())) ? trace.get(i) : NONE; }

    public int taken(int person, int k) {
        if (!in(k, 7)) return BAD;
        if (!isP(person)) return NOTHING;
        int kind = now.people.get(person).kind();
        return isUnder(kind, k) ? kind : CAST;
    }

    public int count(int what) {
        int[] counts = {now.people.size(), now.bridges.size(), cities, now.seen.size(), now.plan.size(),
            now.book.size(), text.length(), trace.size()};
        return in(what, 8) ? counts[what] : BAD;
    }

    public int tape(int tape, int sort, int n) {
        if (!in(tape, 6)) return NONE;
        if (sort < -1 || sort > 4) return BAD;
        if (sort >= 0 && n > 60) return BAD;
        if (sort >= 0 && n < 0) return SIZE;
        sorts[tape] = sort;
        tapes[tape] = new long[sort < 0 ? 0 : n];
        return 1;
    }

    public int item(int tape, int i, long v) {
        if (!in(tape, 6)) return NONE;
        if (sorts[tape] == -1) return NOTHING;
        if (!in(i, tapes[tape].length)) return PLACE;
        tapes[tape][i] = switch (sorts[tape]) {
            case 0 -> v << 56 >> 56;
            case 1 -> v << 48 >> 48;
            case 2 -> v << 32 >> 32;
            case 3 -> v;
            default -> v == 0 ? 0 : 1;
        };
        return 1;
    }

    public long read(int tape, int i) {
        return in(tape, 6) && in(i, tapes[tape].length) ? tapes[tape][i] : NO;
    }

    public int shift(int tape, int i, int other, int j, int n) {
        if (!in(tape, 6) || !in(other, 6)) return NONE;
        if (sorts[tape] == -1 || sorts[other] == -1) return NOTHING;
        if (sorts[tape] != sorts[other]) return CAST;
        if (n < 0 || i < 0 || j < 0 || (long) i + n > tapes[tape].length || (long) j + n > tapes[other].length) return PLACE;
        long[] moved = new long[n];
        for (int k = 0; k < n; k++) moved[k] = tapes[tape][i + k];
        for (int k = 0; k < n; k++) tapes[other][j + k] = moved[k];
        return n;
    }
}
