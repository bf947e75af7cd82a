import java.util.Arrays;

/**
 * Quarters with bridges in sister pairs between them, and people on errands who have only
 * arrived when no bridge they crossed waits for its sister.
 */
public final class BridgePairs {
    public static final int NONE = -1, BAD = -2, STATE = -3, FULL = -4;
    public static final long NO = Long.MIN_VALUE;

    private static final int NOTHING = -11, CAST = -12, PLACE = -13, SIZE = -14;
    /** Answers "there is none" where the numbers asked for are right. */
    private static final int NOT_ANY = -5;
    /** Stands for NONE where an answer may be below 0. */
    private static final int NO_SUCH = -10001;
    private static final int FAULT_BASE = -10;
    private static final int SHORT_ROW = 100;

    private static final int QUARTERS = 6, BRIDGES = 8, PEOPLE = 6, CITIES = 6, TAPES = 6;
    private static final int HALVES = 256, STATES = QUARTERS * HALVES, LONGEST = 12;
    private static final int MOST_V = 9, ROW_PARTS = 4, MOST_ROW = 9;
    private static final int MOST_HOURS = 12, LAST_HOUR = 9999, DONE_HOURS = 20, SEEN_HOURS = 8;
    private static final int SEEN_ROWS = 5, PLAN_ROWS = 8, BOOK_ROWS = 8;
    private static final int EVERYONE = -1;

    private static final int ONE = 0, LOVER = 1, TWIN = 2, DEBTOR = 3, ENVOY = 4, WIDOW = 5, TOLD = 6;
    private static final int KINDS = 7;
    /** The kind above each kind. */
    private static final int[] ABOVE = {-1, ONE, ONE, ONE, LOVER, TWIN, DEBTOR};

    private static final int WAITS = 0, CROSSES = 1, TELLS = 2, ACTS = 3;
    /** By kind, then by act: the body that stands there (0: that kind has none). */
    private static final int[] BODIES = {
        10, 11, 12,
        0, 20, 0,
        30, 0, 0,
        0, 0, 40,
        50, 51, 0,
        0, 0, 60,
        71, 70, 0};
    private static final int TRACE_KEPT = 20, DEEPEST_ACT = 40;

    private static final int TEXT_SIGNS = 100, MOST_CLAUSES = 10, DEEPEST_NEST = 4;
    private static final String LETTERS = "pkvbnh", RELATIONS = "<=>";
    private static final int BASE_SUM = 3;
    /** Codes of a city: below 0 these, below GRANT tests, then grants and bars with their n. */
    private static final int AND = -1, OR = -2, NOT = -3, GRANT = 2000, BAR = 2100;

    private static final int NO_SORT = -1, BYTES = 0, SHORTS = 1, INTS = 2, LONGS = 3, BOOLEANS = 4;
    private static final int MOST_ITEMS = 60;

    private static final int PLAN_HOUR = 0, PLAN_LOSE = 1, PLAN_FIND = 2, PLAN_NO_ERRAND = 3;

    private final World now = new World();
    private final World kept = new World();
    /** Where questions are played out, so that asking changes nothing. */
    private final World trial = new World();
    private final Ways ways = new Ways();
    private final Text text = new Text();
    private final City[] cities = new City[CITIES];
    private final Tape[] tapes = new Tape[TAPES];
    private final Acts acts = new Acts();
    private int cityCount;
    private boolean hasImage;

    public BridgePairs() {
        for (int i = 0; i < CITIES; i++) {
            cities[i] = new City();
        }
        for (int i = 0; i < TAPES; i++) {
            tapes[i] = new Tape();
        }
    }

    // ---- bridges, people, cities

    public int bridge(int one, int other) {
        if (!isQuarter(one) || !isQuarter(other)) {
            return NONE;
        }
        if (one == other) {
            return BAD;
        }
        return now.addBridge(one, other);
    }

    public int one(int kind, int v, int quarter) {
        if (kind < 0 || kind >= KINDS || !isQuarter(quarter)) {
            return NONE;
        }
        if (v < 0 || v > MOST_V) {
            return BAD;
        }
        return now.addPerson(kind, v, quarter);
    }

    public int of(int person, int what) {
        if (!isPerson(person)) {
            return NO_SUCH;
        }
        Person one = now.persons[person];
        switch (what) {
            case 0:
                return one.kind;
            case 1:
                return one.v;
            case 2:
                return one.at;
            case 3:
                return one.said;
            case 4:
                return one.errand;
            case 5:
                return one.half;
            case 6:
                return ways.reachable(now, person);
            case 7:
                return hoursUntilDone(person);
            case 8:
                return crossable(person);
            default:
                return leaveNow(person, what);
        }
    }

    public int span(int bridge, int what) {
        if (!isBridge(bridge)) {
            return NONE;
        }
        switch (what) {
            case 0:
                return now.first[bridge];
            case 1:
                return now.second[bridge];
            case 2:
                return now.sister[bridge];
            case 3:
                return now.lost >> bridge & 1;
            default:
                return NONE;
        }
    }

    public int errand(int person, int quarter) {
        if (!isPerson(person) || quarter != -1 && !isQuarter(quarter)) {
            return NONE;
        }
        Person one = now.persons[person];
        int was = one.errand;
        one.errand = quarter == -1 ? NOT_ANY : quarter;
        return was;
    }

    public int cross(int person, int bridge) {
        if (!isPerson(person) || !isBridge(bridge)) {
            return NONE;
        }
        if ((crossable(person) >> bridge & 1) == 0) {
            return STATE;
        }
        now.goOver(person, bridge);
        return now.persons[person].at;
    }

    public int lose(int bridge, boolean is) {
        if (!isBridge(bridge)) {
            return NONE;
        }
        int was = now.lost >> bridge & 1;
        now.setLost(bridge, is);
        return was;
    }

    public int swap(int one, int other) {
        if (!isBridge(one) || !isBridge(other)) {
            return NONE;
        }
        if (!now.canExchange(one, other)) {
            return STATE;
        }
        now.exchange(one, other);
        return now.sister[one];
    }

    public int row(int person, int part, int n) {
        if (!isPerson(person) || part < 0 || part >= ROW_PARTS) {
            return NONE;
        }
        if (n < 0 || n > MOST_ROW) {
            return BAD;
        }
        Person one = now.persons[person];
        if (one.kind != TOLD) {
            return STATE;
        }
        int was = one.row[part];
        one.row[part] = n;
        return was;
    }

    public int feed(int sign) {
        if (sign < 0 || sign > 127) {
            return BAD;
        }
        return text.append(sign);
    }

    public int city() {
        if (cityCount >= CITIES) {
            return FULL;
        }
        City next = cities[cityCount];
        int fault = text.readInto(next);
        text.length = 0;
        if (fault >= 0) {
            return FAULT_BASE - fault;
        }
        now.city = next;
        return cityCount++;
    }

    public int told(int what) {
        switch (what) {
            case 0:
                return now.hour;
            case 1:
                return now.dark();
            case 2:
                return now.arrived();
            case 3:
                return now.halves();
            case 4:
                return now.lost;
            default:
                return NONE;
        }
    }

    // ---- hours, ways

    public int pass(int n) {
        if (n < 0 || n > MOST_HOURS) {
            return BAD;
        }
        if (now.hour + n > LAST_HOUR) {
            return STATE;
        }
        hoursGo(now, n, EVERYONE);
        return now.hour;
    }

    public int on(int n, int what) {
        int person = what % 10;
        boolean isOfPerson = what >= 10 && what < 40 && isPerson(person);
        if (what != 0 && !isOfPerson) {
            return NONE;
        }
        if (n < 0 || n > MOST_HOURS) {
            return BAD;
        }
        trial.copyFrom(now);
        hoursGo(trial, n, what == 0 ? EVERYONE : 1 << person);
        switch (what / 10) {
            case 1:
                return trial.persons[person].at;
            case 2:
                return trial.persons[person].said;
            case 3:
                return trial.persons[person].half;
            default:
                return trial.arrived();
        }
    }

    public int way(int person, int quarter, int k) {
        if (!isPerson(person) || !isQuarter(quarter) || k < -1 || k >= LONGEST) {
            return NONE;
        }
        int length = ways.search(now, person, quarter);
        return k == -1 ? length : ways.stepAt(k);
    }

    public int sisters(int person, int quarter) {
        if (!isPerson(person) || !isQuarter(quarter)) {
            return NONE;
        }
        int least = lengthOrFar(ways.search(now, person, quarter));
        int best = NOT_ANY;
        trial.copyFrom(now);
        for (int a = 0; a < trial.bridges; a++) {
            for (int b = a + 1; b < trial.bridges; b++) {
                if (!trial.canExchange(a, b)) {
                    continue;
                }
                trial.exchange(a, b);
                int length = lengthOrFar(ways.search(trial, person, quarter));
                // To exchange the same two again undoes it.
                trial.exchange(a, b);
                if (length < least) {
                    least = length;
                    best = 10 * a + b;
                }
            }
        }
        return best;
    }

    // ---- seen, odds

    public int see(int person, int n, int quarter) {
        if (person == -1) {
            return now.seen.empty();
        }
        if (!isPerson(person) || !isQuarter(quarter)) {
            return NONE;
        }
        if (n < 0 || n > SEEN_HOURS) {
            return BAD;
        }
        return now.seen.add(person, quarter, n);
    }

    public int from(int person) {
        if (!isPerson(person)) {
            return NONE;
        }
        int bits = 0;
        for (int quarter = 0; quarter < QUARTERS; quarter++) {
            trial.copyFrom(now);
            trial.persons[person].at = quarter;
            if (goesAsSeen(person)) {
                bits |= 1 << quarter;
            }
        }
        return bits;
    }

    public int can(int person, int what) {
        if (!isPerson(person) || what < 0 || what > 1) {
            return NONE;
        }
        int many = 0;
        int least = NOT_ANY;
        for (int v = MOST_V; v >= 0; v--) {
            trial.copyFrom(now);
            trial.persons[person].v = v;
            if (goesAsSeen(person)) {
                many++;
                least = v;
            }
        }
        return what == 0 ? many : least;
    }

    public long odds(int person, int quarter, int part) {
        if (!isPerson(person) || !isQuarter(quarter) || !isPart(part) || now.bridges == 0) {
            return NO;
        }
        int many = 0;
        trial.copyFrom(now);
        for (int b = 0; b < now.bridges; b++) {
            trial.lost = now.lost | 1 << b;
            if (ways.search(trial, person, quarter) >= 0) {
                many++;
            }
        }
        return lowest(many, now.bridges, part);
    }

    public long mean(int part) {
        if (!isPart(part) || now.people == 0) {
            return NO;
        }
        return lowest(now.halves(), now.people, part);
    }

    // ---- plans, books

    public int plan(int what, int n) {
        if (what == -1) {
            return now.plan.empty();
        }
        boolean isRight;
        switch (what) {
            case PLAN_HOUR:
                isRight = true;
                break;
            case PLAN_LOSE:
            case PLAN_FIND:
                isRight = isBridge(n);
                break;
            case PLAN_NO_ERRAND:
                isRight = isPerson(n);
                break;
            default:
                isRight = false;
                break;
        }
        return isRight ? now.plan.add(n, what, 0) : NONE;
    }

    public int ends(int what) {
        if (what < 0 || what > 1) {
            return NONE;
        }
        trial.copyFrom(now);
        for (int i = 0; i < now.plan.count; i++) {
            int n = now.plan.number[i];
            switch (now.plan.place[i]) {
                case PLAN_HOUR:
                    hoursGo(trial, 1, EVERYONE);
                    break;
                case PLAN_LOSE:
                    trial.setLost(n, true);
                    break;
                case PLAN_FIND:
                    trial.setLost(n, false);
                    break;
                default:
                    trial.persons[n].errand = NOT_ANY;
                    break;
            }
        }
        return what == 0 ? trial.arrived() : trial.halves();
    }

    public int book(int person, int quarter) {
        if (person == -1) {
            return now.book.empty();
        }
        if (!isPerson(person) || !isQuarter(quarter)) {
            return NONE;
        }
        return now.book.add(person, quarter, 0);
    }

    public int looked() {
        for (int i = 0; i < now.book.count; i++) {
            if (now.persons[now.book.number[i]].said != now.book.place[i]) {
                return i;
            }
        }
        return NOT_ANY;
    }

    // ---- judging, the image, acts, tapes

    public int judge(int tape, int i) {
        if (!isTape(tape)) {
            return NONE;
        }
        Tape told = tapes[tape];
        if (told.sort != SHORTS && told.sort != NO_SORT) {
            return CAST;
        }
        if (now.people == 0) {
            return NOT_ANY;
        }
        for (int p = 0; p < now.people; p++) {
            if (!told.hasPlace(i) || !told.hasPlace(i + p)) {
                return SHORT_ROW + p;
            }
            if (told.items[i + p] != now.persons[p].half) {
                return p;
            }
        }
        return NOT_ANY;
    }

    public int image() {
        kept.copyFrom(now);
        hasImage = true;
        return now.people;
    }

    public int undo() {
        if (!hasImage) {
            return STATE;
        }
        now.copyFrom(kept);
        return now.people;
    }

    public int act(int person, int act, int x) {
        if (!isPerson(person) || act < 0 || act >= ACTS) {
            acts.ran = 0;
            return 0;
        }
        return acts.begin(now.persons[person], person, act, x);
    }

    public int trace(int i) {
        return i >= 0 && i < acts.ran && i < TRACE_KEPT ? acts.bodies[i] : NONE;
    }

    public int taken(int person, int k) {
        if (k < 0 || k >= KINDS) {
            return BAD;
        }
        if (!isPerson(person)) {
            return NOTHING;
        }
        int kind = now.persons[person].kind;
        return isUnder(kind, k) ? kind : CAST;
    }

    public int count(int what) {
        switch (what) {
            case 0:
                return now.people;
            case 1:
                return now.bridges;
            case 2:
                return cityCount;
            case 3:
                return now.seen.count;
            case 4:
                return now.plan.count;
            case 5:
                return now.book.count;
            case 6:
                return text.length;
            case 7:
                return acts.ran;
            default:
                return BAD;
        }
    }

    public int tape(int tape, int sort, int n) {
        if (!isTape(tape)) {
            return NONE;
        }
        if (sort < NO_SORT || sort > BOOLEANS || sort != NO_SORT && n > MOST_ITEMS) {
            return BAD;
        }
        if (sort != NO_SORT && n < 0) {
            return SIZE;
        }
        tapes[tape].become(sort, sort == NO_SORT ? 0 : n);
        return 1;
    }

    public int item(int tape, int i, long v) {
        if (!isTape(tape)) {
            return NONE;
        }
        Tape held = tapes[tape];
        if (held.sort == NO_SORT) {
            return NOTHING;
        }
        if (!held.hasPlace(i)) {
            return PLACE;
        }
        held.items[i] = held.asItem(v);
        return 1;
    }

    public long read(int tape, int i) {
        return isTape(tape) && tapes[tape].hasPlace(i) ? tapes[tape].items[i] : NO;
    }

    public int shift(int tape, int i, int other, int j, int n) {
        if (!isTape(tape) || !isTape(other)) {
            return NONE;
        }
        Tape giver = tapes[tape];
        Tape taker = tapes[other];
        if (giver.sort == NO_SORT || taker.sort == NO_SORT) {
            return NOTHING;
        }
        if (giver.sort != taker.sort) {
            return CAST;
        }
        if (!giver.hasPart(i, n) || !taker.hasPart(j, n)) {
            return PLACE;
        }
        System.arraycopy(giver.items, i, taker.items, j, n);
        return n;
    }

    // ---- what the calls share

    private static boolean isQuarter(int n) {
        return n >= 0 && n < QUARTERS;
    }

    private static boolean isTape(int n) {
        return n >= 0 && n < TAPES;
    }

    private static boolean isPart(int n) {
        return n == 0 || n == 1;
    }

    private boolean isPerson(int n) {
        return n >= 0 && n < now.people;
    }

    private boolean isBridge(int n) {
        return n >= 0 && n < now.bridges;
    }

    private static boolean isUnder(int kind, int top) {
        int k = kind;
        for (int i = 0; i < KINDS && k >= 0; i++) {
            if (k == top) {
                return true;
            }
            k = ABOVE[k];
        }
        return false;
    }

    private static int lengthOrFar(int length) {
        return length == NOT_ANY ? LONGEST + 1 : length;
    }

    /** The part (0 above, 1 below the line) of a fraction in lowest terms. */
    private static long lowest(int above, int below, int part) {
        int shared = 1;
        for (int d = 2; d <= below; d++) {
            if (above % d == 0 && below % d == 0) {
                shared = d;
            }
        }
        return (part == 0 ? above : below) / shared;
    }

    /** Hours go in a world for those people whose bits are set; people don't touch one another. */
    private void hoursGo(World world, int n, int who) {
        for (int i = 0; i < n; i++) {
            boolean isDark = world.hour % 10 < world.dark();
            for (int p = 0; p < world.people && !isDark; p++) {
                Person one = world.persons[p];
                boolean goes = (who >> p & 1) != 0 && one.errand != NOT_ANY && !one.isDone();
                if (goes && ways.search(world, p, one.errand) > 0) {
                    world.goOver(p, ways.stepAt(0));
                }
            }
            world.hour++;
        }
    }

    private int hoursUntilDone(int person) {
        if (now.persons[person].errand == NOT_ANY) {
            return NOT_ANY;
        }
        trial.copyFrom(now);
        for (int hours = 0; hours <= DONE_HOURS; hours++) {
            if (trial.persons[person].isDone()) {
                return hours;
            }
            hoursGo(trial, 1, 1 << person);
        }
        return NOT_ANY;
    }

    private int crossable(int person) {
        Person one = now.persons[person];
        int n = Integer.bitCount(one.half);
        int bits = 0;
        for (int b = 0; b < now.bridges; b++) {
            if (now.otherEnd(b, one.at) >= 0 && now.mayCross(person, b, n)) {
                bits |= 1 << b;
            }
        }
        return bits;
    }

    private int leaveNow(int person, int what) {
        if (what < 10 || !isBridge(what - 10)) {
            return NO_SUCH;
        }
        return now.leave(person, what - 10, Integer.bitCount(now.persons[person].half));
    }

    /** Whether the trial, going on, shows all that is seen of one; the trial is used up. */
    private boolean goesAsSeen(int person) {
        int last = now.seen.lastHour(person);
        for (int hours = 0; hours <= last; hours++) {
            if (hours > 0) {
                hoursGo(trial, 1, 1 << person);
            }
            if (!now.seen.agrees(person, trial.persons[person].at, hours)) {
                return false;
            }
        }
        return true;
    }

    /** All that the image holds: bridges, people, the hour, what was told by hand, the city. */
    private static final class World {
        int bridges;
        final int[] first = new int[BRIDGES];
        final int[] second = new int[BRIDGES];
        final int[] sister = new int[BRIDGES];
        /** Bits. */
        int lost;
        int people;
        final Person[] persons = new Person[PEOPLE];
        int hour;
        /** The one that holds, or null. */
        City city;
        final Rows seen = new Rows(SEEN_ROWS);
        final Rows plan = new Rows(PLAN_ROWS);
        final Rows book = new Rows(BOOK_ROWS);

        World() {
            for (int i = 0; i < PEOPLE; i++) {
                persons[i] = new Person();
            }
        }

        void copyFrom(World other) {
            bridges = other.bridges;
            System.arraycopy(other.first, 0, first, 0, BRIDGES);
            System.arraycopy(other.second, 0, second, 0, BRIDGES);
            System.arraycopy(other.sister, 0, sister, 0, BRIDGES);
            lost = other.lost;
            people = other.people;
            for (int i = 0; i < people; i++) {
                persons[i].copyFrom(other.persons[i]);
            }
            hour = other.hour;
            city = other.city;
            seen.copyFrom(other.seen);
            plan.copyFrom(other.plan);
            book.copyFrom(other.book);
        }

        int addBridge(int one, int other) {
            if (bridges >= BRIDGES) {
                return FULL;
            }
            first[bridges] = one;
            second[bridges] = other;
            sister[bridges] = NOT_ANY;
            if (bridges % 2 == 1) {
                sister[bridges] = bridges - 1;
                sister[bridges - 1] = bridges;
            }
            return bridges++;
        }

        int addPerson(int kind, int v, int quarter) {
            if (people >= PEOPLE) {
                return FULL;
            }
            persons[people].become(kind, v, quarter);
            return people++;
        }

        void setLost(int bridge, boolean is) {
            int bit = 1 << bridge;
            lost = is ? lost | bit : lost & ~bit;
        }

        boolean canExchange(int a, int b) {
            return a != b && sister[a] != NOT_ANY && sister[b] != NOT_ANY && sister[a] != b;
        }

        /** Each of two bridges that can be exchanged gets the other's sister. */
        void exchange(int a, int b) {
            int sisterOfA = sister[a];
            int sisterOfB = sister[b];
            sister[a] = sisterOfB;
            sister[sisterOfB] = a;
            sister[b] = sisterOfA;
            sister[sisterOfA] = b;
        }

        /** Where a bridge leads from a quarter; -1: it has no end there. */
        int otherEnd(int bridge, int quarter) {
            if (first[bridge] == quarter) {
                return second[bridge];
            }
            return second[bridge] == quarter ? first[bridge] : -1;
        }

        /** What is half behind a crossing. */
        int halfBehind(int half, int bridge) {
            int other = sister[bridge];
            if (other != NOT_ANY && (half >> other & 1) != 0) {
                return half ^ 1 << other;
            }
            return half ^ 1 << bridge;
        }

        void goOver(int person, int bridge) {
            Person one = persons[person];
            one.at = otherEnd(bridge, one.at);
            one.half = halfBehind(one.half, bridge);
            if (one.half == 0) {
                one.said = one.at;
            }
        }

        int leave(int person, int bridge, int n) {
            Person one = persons[person];
            int sum = city == null ? BASE_SUM : city.sum(person, one.kind, one.v, bridge, n, hour % 10);
            switch (one.kind) {
                case LOVER:
                    return sum + one.v - bridge % 2 * 5;
                case TWIN:
                    return sum / 2;
                case DEBTOR:
                    return sum - 2 * n;
                case ENVOY:
                    return n > 2 ? 0 : sum + one.v - bridge % 2 * 5;
                case WIDOW:
                    return sum / 2 + 2;
                case TOLD:
                    return sum - 2 * n + one.row[bridge % ROW_PARTS] - 4;
                default:
                    return sum;
            }
        }

        /** Whether one may cross a bridge, n being half. */
        boolean mayCross(int person, int bridge, int n) {
            boolean isOpen = (lost >> bridge & 1) == 0 || persons[person].kind == WIDOW;
            return isOpen && leave(person, bridge, n) >= 1;
        }

        int dark() {
            return city == null ? 0 : city.dark;
        }

        /** Who truly is where its errand is, as bits. */
        int arrived() {
            int bits = 0;
            for (int p = 0; p < people; p++) {
                if (persons[p].isDone()) {
                    bits |= 1 << p;
                }
            }
            return bits;
        }

        /** How many bridges are half, of all people, together. */
        int halves() {
            int sum = 0;
            for (int p = 0; p < people; p++) {
                sum += Integer.bitCount(persons[p].half);
            }
            return sum;
        }
    }

    private static final class Person {
        int kind;
        int v;
        int at;
        int said;
        /** A quarter, or NOT_ANY. */
        int errand = NOT_ANY;
        /** Bits. */
        int half;
        final int[] row = new int[ROW_PARTS];

        void become(int newKind, int newV, int quarter) {
            kind = newKind;
            v = newV;
            at = quarter;
            said = quarter;
            errand = NOT_ANY;
            half = 0;
            Arrays.fill(row, 0);
        }

        void copyFrom(Person other) {
            kind = other.kind;
            v = other.v;
            at = other.at;
            said = other.said;
            errand = other.errand;
            half = other.half;
            System.arraycopy(other.row, 0, row, 0, ROW_PARTS);
        }

        /** Whether it truly is where its errand is. */
        boolean isDone() {
            return half == 0 && at == errand;
        }
    }

    /** Rows told by hand: of whom or what, where or which, and after how many hours. */
    private static final class Rows {
        final int[] number;
        final int[] place;
        final int[] hours;
        int count;

        Rows(int most) {
            number = new int[most];
            place = new int[most];
            hours = new int[most];
        }

        int empty() {
            count = 0;
            return 0;
        }

        int add(int newNumber, int newPlace, int newHours) {
            if (count >= number.length) {
                return FULL;
            }
            number[count] = newNumber;
            place[count] = newPlace;
            hours[count] = newHours;
            count++;
            return count;
        }

        void copyFrom(Rows other) {
            count = Math.min(other.count, number.length);
            System.arraycopy(other.number, 0, number, 0, count);
            System.arraycopy(other.place, 0, place, 0, count);
            System.arraycopy(other.hours, 0, hours, 0, count);
        }

        /** The latest hour of a row of one; -1: it has no row. */
        int lastHour(int person) {
            int last = -1;
            for (int i = 0; i < count; i++) {
                if (number[i] == person) {
                    last = Math.max(last, hours[i]);
                }
            }
            return last;
        }

        /** Whether every row of one for that hour tells that quarter. */
        boolean agrees(int person, int quarter, int hour) {
            for (int i = 0; i < count; i++) {
                if (number[i] == person && hours[i] == hour && place[i] != quarter) {
                    return false;
                }
            }
            return true;
        }
    }

    /**
     * Looks for ways, breadth first, over states (a quarter, what is half). Bridges are tried
     * by number, so of several shortest rows the first one reaches a state first.
     */
    private static final class Ways {
        private static final int UNKNOWN = 0, ALLOWED = 1, REFUSED = 2;
        private static final int COUNTS = BRIDGES + 1;

        private final int[] queue = new int[STATES];
        /** The place in the queue that a state was reached from, times BRIDGES, and the bridge. */
        private final int[] link = new int[STATES];
        private final boolean[] isMet = new boolean[STATES];
        /** By bridge and how many are half: whether one may cross. */
        private final int[] may = new int[BRIDGES * COUNTS];
        private int tail;
        /** What the latest search answered. */
        private int length;

        /** LONG of one and a quarter; quarter -1: looks as far as a way may go, finds none. */
        int search(World world, int person, int quarter) {
            begin(world.persons[person]);
            int target = quarter * HALVES;
            boolean isFound = queue[0] == target;
            int head = 0;
            int bridges = 0;
            for (; bridges < LONGEST && !isFound; bridges++) {
                for (int end = tail; head < end && !isFound; head++) {
                    int at = queue[head] / HALVES;
                    int half = queue[head] % HALVES;
                    int n = Integer.bitCount(half);
                    for (int b = 0; b < world.bridges && !isFound; b++) {
                        int other = world.otherEnd(b, at);
                        if (other < 0) {
                            continue;
                        }
                        int key = b * COUNTS + n;
                        if (may[key] == UNKNOWN) {
                            may[key] = world.mayCross(person, b, n) ? ALLOWED : REFUSED;
                        }
                        if (may[key] == ALLOWED) {
                            int next = other * HALVES + world.halfBehind(half, b);
                            isFound = meet(next, head * BRIDGES + b) && next == target;
                        }
                    }
                }
            }
            length = isFound ? bridges : NOT_ANY;
            return length;
        }

        /** The k-th bridge of the way that the latest search found; NOT_ANY: it has fewer. */
        int stepAt(int k) {
            if (k < 0 || k >= length) {
                return NOT_ANY;
            }
            int place = tail - 1;
            for (int i = length - 1; i > k; i--) {
                place = link[place] / BRIDGES;
            }
            return link[place] % BRIDGES;
        }

        int reachable(World world, int person) {
            search(world, person, -1);
            int bits = 0;
            for (int quarter = 0; quarter < QUARTERS; quarter++) {
                if (isMet[quarter * HALVES]) {
                    bits |= 1 << quarter;
                }
            }
            return bits;
        }

        private void begin(Person one) {
            for (int i = 0; i < tail; i++) {
                isMet[queue[i]] = false;
            }
            Arrays.fill(may, UNKNOWN);
            tail = 0;
            meet(one.at * HALVES + one.half, 0);
        }

        /** Whether a state is new; it is met then. */
        private boolean meet(int state, int from) {
            if (isMet[state] || tail >= STATES) {
                return false;
            }
            isMet[state] = true;
            queue[tail] = state;
            link[tail] = from;
            tail++;
            return true;
        }
    }

    /** A city as codes, each expression's parts ahead of what joins them. */
    private static final class City {
        int dark;
        private final int[] codes = new int[TEXT_SIGNS];
        private int size;
        private final int[] facts = new int[6];

        void clear() {
            dark = 0;
            size = 0;
        }

        void add(int code) {
            if (size < codes.length) {
                codes[size] = code;
                size++;
            }
        }

        /** SUM; the parameters are the letters of a test. */
        int sum(int p, int k, int v, int b, int n, int h) {
            facts[0] = p;
            facts[1] = k;
            facts[2] = v;
            facts[3] = b;
            facts[4] = n;
            facts[5] = h;
            int sum = BASE_SUM;
            // What holds, as bits, the newest lowest.
            int stack = 0;
            for (int i = 0; i < size; i++) {
                int code = codes[i];
                int top = stack & 1;
                if (code >= BAR) {
                    sum -= top * (code - BAR);
                    stack = 0;
                } else if (code >= GRANT) {
                    sum += top * (code - GRANT);
                    stack = 0;
                } else if (code >= 0) {
                    int fact = facts[code / 300];
                    int number = code % 100;
                    int relation = fact < number ? 0 : fact == number ? 1 : 2;
                    stack = stack << 1 | (relation == code / 100 % 3 ? 1 : 0);
                } else if (code == NOT) {
                    stack ^= 1;
                } else if (code == AND) {
                    stack = stack >> 1 & (top | ~1);
                } else {
                    stack = stack >> 1 | top;
                }
            }
            return sum;
        }
    }

    /** THE TEXT, and the reading of a city from it; a reader stops at the fault. */
    private static final class Text {
        private final int[] signs = new int[TEXT_SIGNS];
        int length;
        private int place;
        private int number;

        int append(int sign) {
            if (length >= TEXT_SIGNS) {
                return FULL;
            }
            signs[length] = sign;
            length++;
            return length;
        }

        /** The fault; -1: there is none, and the city is read. */
        int readInto(City city) {
            city.clear();
            place = 0;
            for (int i = 0; i < MOST_CLAUSES; i++) {
                if (!readClause(city)) {
                    return place;
                }
                if (place >= length) {
                    return -1;
                }
                if (i == MOST_CLAUSES - 1 || !takes(';')) {
                    return place;
                }
            }
            return place;
        }

        private boolean readClause(City city) {
            if (sign() == 'd') {
                boolean isRight = takesWord("dark ") && takesNumber();
                city.dark = number;
                return isRight;
            }
            boolean bars = sign() == 'b';
            if (!takesWord(bars ? "bar " : "grant ") || !takesNumber()) {
                return false;
            }
            int n = number;
            if (!takes(' ') || !readExpression(city, 0)) {
                return false;
            }
            city.add((bars ? BAR : GRANT) + n);
            return true;
        }

        /** E: terms between |, of factors between &; each join stands behind what it joins. */
        private boolean readExpression(City city, int depth) {
            boolean joinsTerm = false;
            boolean joinsExpression = false;
            for (int i = 0; i <= TEXT_SIGNS; i++) {
                if (!readFactor(city, depth)) {
                    return false;
                }
                if (joinsTerm) {
                    city.add(AND);
                }
                joinsTerm = takes('&');
                if (joinsTerm) {
                    continue;
                }
                if (joinsExpression) {
                    city.add(OR);
                }
                joinsExpression = takes('|');
                if (!joinsExpression) {
                    return true;
                }
            }
            return false;
        }

        /** Depth: how many ( and ! stand around. */
        private boolean readFactor(City city, int depth) {
            int sign = sign();
            if (sign != '!' && sign != '(') {
                return readTest(city);
            }
            if (depth >= DEEPEST_NEST) {
                return false;
            }
            place++;
            if (sign == '!') {
                return readDenied(city, depth + 1);
            }
            return readExpression(city, depth + 1) && takes(')');
        }

        private boolean readDenied(City city, int depth) {
            if (!readFactor(city, depth)) {
                return false;
            }
            city.add(NOT);
            return true;
        }

        private boolean readTest(City city) {
            int letter = takesOneOf(LETTERS);
            if (letter < 0) {
                return false;
            }
            int relation = takesOneOf(RELATIONS);
            if (relation < 0 || !takesNumber()) {
                return false;
            }
            city.add(letter * 300 + relation * 100 + number);
            return true;
        }

        /** The sign at the place; -1: the text has ended. */
        private int sign() {
            return place < length ? signs[place] : -1;
        }

        private boolean takes(char wanted) {
            if (sign() != wanted) {
                return false;
            }
            place++;
            return true;
        }

        private boolean takesWord(String word) {
            for (int i = 0; i < word.length(); i++) {
                if (!takes(word.charAt(i))) {
                    return false;
                }
            }
            return true;
        }

        /** Which of some signs comes; -1: none of them. */
        private int takesOneOf(String wanted) {
            int sign = sign();
            if (sign < 0) {
                return -1;
            }
            int which = wanted.indexOf((char) sign);
            if (which >= 0) {
                place++;
            }
            return which;
        }

        private boolean takesNumber() {
            number = 0;
            int digits = 0;
            for (int i = 0; i < 2 && sign() >= '0' && sign() <= '9'; i++) {
                number = number * 10 + sign() - '0';
                place++;
                digits++;
            }
            return digits > 0;
        }
    }

    /** The bodies of the kinds, and which of them ran. */
    private static final class Acts {
        final int[] bodies = new int[TRACE_KEPT];
        int ran;
        private int kind;
        private int v;
        private int number;

        int begin(Person one, int person, int act, int x) {
            kind = one.kind;
            v = one.v;
            number = person;
            ran = 0;
            return perform(kind, act, x, 0);
        }

        /** Runs the body of an act that stands nearest, from a kind upward. */
        private int perform(int from, int act, int x, int depth) {
            int home = from;
            for (int i = 0; i < KINDS && home >= 0 && BODIES[home * ACTS + act] == 0; i++) {
                home = ABOVE[home];
            }
            if (home < 0 || depth > DEEPEST_ACT) {
                return 0;
            }
            int body = BODIES[home * ACTS + act];
            if (ran < TRACE_KEPT) {
                bodies[ran] = body;
            }
            ran++;
            return answer(body, ABOVE[home], x, depth + 1);
        }

        private int answer(int body, int above, int x, int depth) {
            switch (body) {
                case 10:
                    return x + number;
                case 11:
                    return perform(kind, WAITS, x, depth) - v;
                case 12:
                    return perform(kind, CROSSES, x, depth) * 2;
                case 20:
                    return perform(above, CROSSES, x, depth) ^ 6;
                case 30:
                    return perform(above, WAITS, x * 3, depth);
                case 40:
                    return perform(above, TELLS, x, depth) + perform(kind, CROSSES, 1, depth);
                case 50:
                    return -perform(above, WAITS, x, depth);
                case 51:
                    return perform(above, CROSSES, x + 1, depth);
                case 60:
                    return perform(above, TELLS, x - number, depth);
                case 70:
                    return perform(above, CROSSES, x, depth) + perform(above, WAITS, 2, depth);
                case 71:
                    return perform(above, WAITS, x, depth) ^ v;
                default:
                    return 0;
            }
        }
    }

    private static final class Tape {
        int sort = NO_SORT;
        /** Of the sort's range always; only the first ones are of the row. */
        final long[] items = new long[MOST_ITEMS];
        private int length;

        void become(int newSort, int newLength) {
            sort = newSort;
            length = newLength;
            Arrays.fill(items, 0L);
        }

        boolean hasPlace(int i) {
            return i >= 0 && i < length;
        }

        boolean hasPart(int i, int n) {
            return i >= 0 && n >= 0 && i <= length && n <= length - i;
        }

        /** A number cut to what an item of the sort holds. */
        long asItem(long v) {
            switch (sort) {
                case BYTES:
                    return (byte) v;
                case SHORTS:
                    return (short) v;
                case INTS:
                    return (int) v;
                case BOOLEANS:
                    return v != 0 ? 1 : 0;
                default:
                    return v;
            }
        }
    }
}
