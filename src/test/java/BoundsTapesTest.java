/** Boundary cases, sentence by sentence: judging, the image, acts, tapes (promises 27 to 37). */
public final class BoundsTapesTest extends Bounds {
    private static final int ONE = 0, LOVER = 1, TWIN = 2, DEBTOR = 3, ENVOY = 4, WIDOW = 5, TOLD = 6;
    private static final int BYTES = 0, SHORTS = 1, INTS = 2, LONGS = 3, BOOLEANS = 4;
    private static final int WAITS = 0, CROSSES = 1, TELLS = 2;

    public static void main(String[] args) throws Exception { runAll(BoundsTapesTest.class); }

    // ---- promise 27

    /** Six people; the p-th one has the bridges below p half. */
    private static BridgePairs sixHalf() {
        BridgePairs x = bridges(0, 1, 2, 3, 0, 1, 2, 3, 0, 1, 2, 3, 0, 1, 2, 3);
        for (int p = 0; p <= 5; p++) {
            x.one(ONE, 0, 0);
            for (int b = 0; b <= 6 && b / 2 < p; b += 2) x.cross(p, b);
        }
        return x;
    }

    private static final int[] SIX = {0, 1, 5, 21, 85, 85};

    private static void tell(BridgePairs x, int tape, int from, int... items) {
        for (int i = 0; i < items.length; i++) x.item(tape, from + i, items[i]);
    }

    static void judgeByNoTape() {
        says("NONE: tape");
        BridgePairs x = sixHalf();
        for (int no : new int[] {LEAST, -1, 6, MOST}) due(x.judge(no, 0), NONE);
        due(new BridgePairs().judge(6, 0), NONE);
    }

    static void judgeByAnotherSort() {
        says("CAST: it is no row of shorts");
        for (int sort = 0; sort <= 4; sort++) {
            BridgePairs x = roadWith(ONE, 0);
            x.tape(0, sort, 5);
            due(x.judge(0, 0), sort == SHORTS ? NOT_ANY : CAST);
            due(x.judge(0, -1), sort == SHORTS ? 100 : CAST);
            due(x.judge(0, 9), sort == SHORTS ? 100 : CAST);
        }
    }

    static void judgeAnotherSortWithoutPeople() {
        says("CAST ahead of -5");
        for (int sort = 0; sort <= 4; sort++) {
            BridgePairs x = road();
            x.tape(5, sort, 0);
            due(x.judge(5, 0), sort == SHORTS ? NOT_ANY : CAST);
        }
    }

    static void judgeWithoutPeople() {
        says("-5: none, or there are no PEOPLE");
        BridgePairs x = road();
        due(x.judge(0, 0), NOT_ANY);
        due(x.judge(0, -1), NOT_ANY);
        x.tape(0, SHORTS, 3);
        x.item(0, 0, 7);
        for (int i : new int[] {LEAST, -1, 0, 3, MOST}) due(x.judge(0, i), NOT_ANY);
    }

    static void judgeByATapeThatHoldsNothing() {
        says("100 and how many were looked at, if .. the TAPE holds nothing");
        BridgePairs x = roadWith(ONE, 0);
        for (int tape = 0; tape <= 5; tape++) due(x.judge(tape, 0), 100);
        x.tape(0, SHORTS, 3);
        due(x.judge(0, 0), NOT_ANY);
        x.tape(0, -1, 3);
        due(x.judge(0, 0), 100);
    }

    static void judgeFromBelowZero() {
        says("100 and how many were looked at, if .. the place is below 0");
        BridgePairs x = roadWith(ONE, 0);
        x.tape(0, SHORTS, 60);
        for (int i : new int[] {LEAST, -60, -1}) due(x.judge(0, i), 100);
        due(x.judge(0, 0), NOT_ANY);
    }

    static void judgeFromBeyondTheEnd() {
        says("100 and how many were looked at, if the row ends ahead of that");
        BridgePairs x = roadWith(ONE, 0);
        x.tape(0, SHORTS, 3);
        due(x.judge(0, 2), NOT_ANY);
        for (int i : new int[] {3, 4, 60, MOST}) due(x.judge(0, i), 100);
        x.tape(0, SHORTS, 0);
        due(x.judge(0, 0), 100);
    }

    static void judgeARowThatEnds() {
        says("100 and how many were looked at, if the row ends ahead of that");
        BridgePairs x = sixHalf();
        for (int n = 0; n <= 6; n++) {
            x.tape(0, SHORTS, n);
            tell(x, 0, 0, SIX);
            due(x.judge(0, 0), n == 6 ? NOT_ANY : 100 + n);
        }
        x.tape(0, SHORTS, 60);
        tell(x, 0, 54, SIX);
        due(x.judge(0, 54), NOT_ANY);
        tell(x, 0, 55, SIX);
        due(x.judge(0, 55), 105);
    }

    static void judgeEachOne() {
        says("the first that is otherwise");
        BridgePairs x = sixHalf();
        x.tape(0, SHORTS, 9);
        for (int p = 0; p <= 5; p++) {
            tell(x, 0, 2, SIX);
            x.item(0, 2 + p, 256 + SIX[p]);
            due(x.judge(0, 2), p);
            if (p < 5) x.item(0, 7, 99);
            due(x.judge(0, 2), p);
        }
        tell(x, 0, 2, SIX);
        due(x.judge(0, 2), NOT_ANY);
    }

    static void judgeOtherwiseAheadOfTheEnd() {
        says("if the row ends ahead of that");
        BridgePairs x = sixHalf();
        x.tape(0, SHORTS, 2);
        tell(x, 0, 0, 0, 2);
        due(x.judge(0, 0), 1);
        tell(x, 0, 0, 1, 1);
        due(x.judge(0, 0), 0);
        tell(x, 0, 0, 0, 1);
        due(x.judge(0, 0), 102);
    }

    static void judgeByAHalfOfAllBits() {
        says("HALF told by a row of shorts");
        BridgePairs x = bridges(1, 0, 0, 1, 1, 0, 0, 1, 1, 0, 0, 1, 1, 0, 0, 1);
        x.one(ONE, 0, 0);
        for (int b = 1; b <= 7; b += 2) x.cross(0, b);
        x.tape(0, SHORTS, 1);
        x.item(0, 0, 170);
        due(x.of(0, 5), 170);
        due(x.judge(0, 0), NOT_ANY);
        x.item(0, 0, 170 - 256);
        due(x.judge(0, 0), 0);
        x.item(0, 0, 65536 + 170);
        due(x.judge(0, 0), NOT_ANY);
    }

    // ---- promises 28 and 29

    static void imageWithoutPeople() {
        says("THE IMAGE is taken: how many PEOPLE there are.");
        BridgePairs x = new BridgePairs();
        due(x.image(), 0);
        due(x.undo(), 0);
    }

    static void imageOfSix() {
        says("THE IMAGE is taken: how many PEOPLE there are.");
        BridgePairs x = new BridgePairs();
        for (int p = 0; p <= 5; p++) {
            x.one(p, p, p);
            due(x.image(), p + 1);
        }
        due(x.undo(), 6);
    }

    static void undoWithoutImage() {
        says("STATE: there is none.");
        BridgePairs x = roadWith(ONE, 3);
        due(x.undo(), STATE);
        due(x.count(0), 1);
        due(x.count(1), 4);
        x.image();
        due(x.undo(), 1);
    }

    static void undoToNothing() {
        says("All is as THE IMAGE");
        BridgePairs x = new BridgePairs();
        x.image();
        x.bridge(0, 1);
        x.one(0, 0, 0);
        due(x.undo(), 0);
        due(x.count(0) + x.count(1), 0);
        due(x.of(0, 0), NO_SUCH);
        due(x.span(0, 0), NONE);
        due(x.mean(0), NO);
        due(x.bridge(2, 3), 0);
        due(x.one(3, 4, 5), 0);
    }

    static void undoAndOneAnew() {
        says("One more, AT and SAID to be in a QUARTER, without an ERRAND");
        BridgePairs x = fanWith(ONE, 0);
        x.image();
        x.one(TOLD, 9, 0);
        for (int part = 0; part <= 3; part++) x.row(1, part, 9);
        x.errand(1, 5);
        due(x.cross(1, 0), 1);
        due(x.undo(), 1);
        due(x.one(TOLD, 2, 3), 1);
        int[] due = {TOLD, 2, 3, 3, NOT_ANY, 0};
        for (int what = 0; what <= 5; what++) due(x.of(1, what), due[what]);
        for (int part = 0; part <= 3; part++) due(x.row(1, part, 1), 0);
    }

    static void undoAndABridgeAnew() {
        says("LOST, or not (not at first)");
        BridgePairs x = bridges(0, 1);
        x.image();
        for (int b = 1; b <= 3; b++) x.bridge(0, 2);
        x.swap(1, 3);
        for (int b = 1; b <= 3; b++) x.lose(b, true);
        x.undo();
        due(x.span(0, 2), NOT_ANY);
        due(x.told(4), 0);
        for (int b = 1; b <= 3; b++) {
            x.bridge(4, 5);
            due(x.span(b, 0) * 10 + x.span(b, 1), 45);
            due(x.span(b, 2), b == 2 ? NOT_ANY : b - 1);
            due(x.span(b, 3), 0);
        }
    }

    static void undoOfWhomIsTold() {
        says("SEEN, the PLAN, the BOOK");
        BridgePairs x = roadWith(ONE, 0);
        x.one(ONE, 0, 4);
        x.errand(1, 4);
        x.see(1, 0, 3);
        x.plan(3, 1);
        x.book(1, 4);
        x.book(1, 3);
        x.image();
        x.see(-1, 0, 0);
        x.see(0, 0, 1);
        x.plan(-1, 0);
        x.plan(3, 0);
        x.book(-1, 0);
        x.book(0, 0);
        x.book(0, 0);
        x.undo();
        due(x.from(0), 63);
        due(x.from(1), 8);
        due(x.ends(0), 0);
        due(x.looked(), 1);
    }

    static void undoAgain() {
        says("All is as THE IMAGE: how many PEOPLE.");
        BridgePairs x = roadWith(ONE, 0);
        x.image();
        for (int again = 0; again < 3; again++) {
            x.cross(0, 0);
            x.one(0, 0, 0);
            due(x.undo(), 1);
            due(x.of(0, 2), 0);
            due(x.of(0, 5), 0);
        }
    }

    static void undoToTheLatestImage() {
        says("THE IMAGE is taken");
        BridgePairs x = roadWith(ONE, 0);
        x.image();
        x.cross(0, 0);
        x.image();
        x.cross(0, 1);
        x.undo();
        due(x.of(0, 2), 1);
    }

    static void undoFromFull() {
        says("All is as THE IMAGE");
        BridgePairs x = bridges(0, 1, 1, 2, 2, 3);
        x.image();
        for (int b = 3; b <= 7; b++) x.bridge(4, 5);
        for (int p = 0; p <= 5; p++) x.one(0, 0, 0);
        for (int i = 0; i < 5; i++) x.see(0, 0, 0);
        for (int i = 0; i < 8; i++) x.plan(0, 0);
        for (int i = 0; i < 8; i++) x.book(0, 0);
        due(x.undo(), 0);
        due(x.count(1), 3);
        due(x.count(3) + x.count(4) + x.count(5), 0);
        due(x.span(2, 2), NOT_ANY);
        due(x.bridge(3, 4), 3);
        due(x.span(2, 2), 3);
    }

    static void undoTheSisters() {
        says("BRIDGES with their SISTERS");
        BridgePairs x = road();
        x.swap(0, 2);
        x.image();
        x.swap(0, 2);
        x.lose(1, true);
        x.undo();
        int[] sister = {3, 2, 1, 0};
        for (int b = 0; b <= 3; b++) due(x.span(b, 2), sister[b]);
        due(x.told(4), 0);
    }

    static void undoAllOfAPerson() {
        says("PEOPLE with all that is theirs");
        BridgePairs x = fanWith(TOLD, 7);
        for (int part = 0; part <= 3; part++) x.row(0, part, 6 + part);
        x.errand(0, 4);
        x.cross(0, 0);
        x.image();
        for (int part = 0; part <= 3; part++) x.row(0, part, 9);
        x.errand(0, -1);
        x.cross(0, 1);
        x.undo();
        int[] due = {TOLD, 7, 1, 0, 4, 1};
        for (int what = 0; what <= 5; what++) due(x.of(0, what), due[what]);
        for (int part = 0; part <= 3; part++) due(x.row(0, part, 0), 6 + part);
    }

    static void undoTheHour() {
        says("HOUR");
        BridgePairs x = new BridgePairs();
        x.pass(5);
        x.image();
        x.pass(12);
        x.undo();
        due(x.told(0), 5);
    }

    static void undoWhatIsTold() {
        says("SEEN, the PLAN, the BOOK");
        BridgePairs x = roadWith(ONE, 0);
        x.errand(0, 2);
        x.see(0, 1, 1);
        x.plan(0, 0);
        x.plan(0, 0);
        x.book(0, 0);
        x.book(0, 2);
        x.image();
        x.see(-1, 0, 0);
        x.plan(-1, 0);
        x.book(-1, 0);
        x.see(0, 0, 5);
        x.plan(3, 0);
        x.book(0, 5);
        x.book(0, 5);
        x.undo();
        due(x.count(3), 1);
        due(x.count(4), 2);
        due(x.count(5), 2);
        due(x.from(0) & 1, 1);
        due(x.ends(0), 1);
        due(x.looked(), 1);
    }

    static void undoWhichCityHolds() {
        says("which CITY holds");
        BridgePairs x = roadWith(ONE, 0);
        x.image();
        city(x, "dark 5;grant 7 p=0");
        x.undo();
        due(x.told(1), 0);
        due(leave(x, 0, 0), 3);
        city(x, "dark 6");
        x.image();
        due(city(x, "dark 7"), 2);
        x.undo();
        due(x.told(1), 6);
        due(x.count(2), 3);
        for (int i = 3; i <= 5; i++) due(city(x, "dark 8"), i);
        due(city(x, "dark 9"), FULL);
        x.undo();
        due(x.told(1), 6);
        due(x.city(), FULL);
    }

    static void undoLeavesTheRest() {
        says("THE IMAGE: BRIDGES .., PEOPLE .., HOUR, SEEN, the PLAN, the BOOK, which CITY holds.");
        BridgePairs x = roadWith(ONE, 0);
        x.image();
        feed(x, "dar");
        x.tape(0, BYTES, 2);
        x.item(0, 0, 9);
        x.act(0, TELLS, 1);
        x.undo();
        due(x.count(6), 3);
        due(x.read(0, 0), 9);
        due(x.count(7), 3);
        due(x.trace(0), 12);
        due(city(x, "k 4"), 0);
    }

    // ---- promise 30

    static void actOfNoOne() {
        says("0, and no TRACE then: no such one");
        BridgePairs x = roadWith(TOLD, 5);
        for (int no : new int[] {LEAST, -1, 1, 6, MOST}) {
            x.act(0, TELLS, 1);
            due(x.trace(0), 40);
            due(x.act(no, TELLS, 7), 0);
            due(x.trace(0), NONE);
            due(x.count(7), 0);
        }
    }

    static void actThatIsNone() {
        says("0, and no TRACE then: no such .. act");
        BridgePairs x = roadWith(TOLD, 5);
        for (int no : new int[] {LEAST, -1, 3, MOST}) {
            x.act(0, TELLS, 1);
            due(x.act(0, no, 7), 0);
            due(x.trace(0), NONE);
            due(x.count(7), 0);
        }
    }

    static void actsOfOne() {
        says("10 waits: x + i. 11 crosses: waits(x) - v. 12 tells: crosses(x) * 2.");
        BridgePairs x = second(ONE, 9);
        acts(x, 5, 6, -3, -6);
        acts(x, -5, -4, -13, -26);
        acts(x, MOST, LEAST, LEAST - 9, -18);
        acts(x, LEAST, LEAST + 1, LEAST - 8, -16);
        due(x.act(1, TELLS, 1 << 30), (1 << 30) * 2 - 16);
    }

    static void actsOfLover() {
        says("20 crosses: super.crosses(x) ^ 6.");
        BridgePairs x = second(LOVER, 9);
        acts(x, 5, 6, -3 ^ 6, (-3 ^ 6) * 2);
        acts(x, LEAST, LEAST + 1, LEAST - 8 ^ 6, (LEAST - 8 ^ 6) * 2);
    }

    static void actsOfTwin() {
        says("30 waits: super.waits(x * 3).");
        BridgePairs x = second(TWIN, 9);
        acts(x, 5, 16, 7, 14);
        acts(x, MOST, MOST * 3 + 1, MOST * 3 - 8, MOST * 6 - 16);
        acts(x, LEAST, LEAST * 3 + 1, LEAST * 3 - 8, -16);
    }

    static void actsOfDebtor() {
        says("40 tells: super.tells(x) + crosses(1).");
        BridgePairs x = second(DEBTOR, 9);
        acts(x, 5, 6, -3, -6 - 7);
        acts(x, MOST, LEAST, LEAST - 9, -18 - 7);
    }

    static void actsOfEnvoy() {
        says("50 waits: -super.waits(x). 51 crosses: super.crosses(x + 1).");
        BridgePairs x = second(ENVOY, 9);
        acts(x, 5, -6, -7 - 9 ^ 6, (-16 ^ 6) * 2);
        acts(x, LEAST, MOST, -(LEAST + 2) - 9 ^ 6, (-(LEAST + 2) - 9 ^ 6) * 2);
        acts(x, MOST, LEAST, MOST - 9 ^ 6, (MOST - 9 ^ 6) * 2);
        BridgePairs first = roadWith(ENVOY, 0);
        due(first.act(0, WAITS, LEAST), LEAST);
        due(first.act(0, WAITS, 0), 0);
    }

    static void actsOfWidow() {
        says("60 tells: super.tells(x - i).");
        BridgePairs x = second(WIDOW, 9);
        acts(x, 5, 16, 7, (4 * 3 + 1 - 9) * 2);
        acts(x, LEAST, LEAST * 3 + 1, LEAST * 3 - 8, (MOST * 3 + 1 - 9) * 2);
    }

    static void actsOfTold() {
        says("70 crosses: super.crosses(x) + super.waits(2). 71 waits: super.waits(x) ^ v.");
        BridgePairs x = second(TOLD, 9);
        int crosses5 = (6 ^ 9) - 9 + 3, crosses1 = (2 ^ 9) - 9 + 3;
        acts(x, 5, 6 ^ 9, crosses5, crosses5 * 2 + crosses1);
        int crossesMost = (LEAST ^ 9) - 9 + 3;
        acts(x, MOST, LEAST ^ 9, crossesMost, crossesMost * 2 + crosses1);
        due(x.act(1, WAITS, 8), 0);
        due(x.act(1, WAITS, -2), -1 ^ 9);
    }

    static void actsDoNotChangeOne() {
        says("ACTS of one with x (wrapping)");
        BridgePairs x = roadWith(TOLD, 5);
        for (int act = 0; act <= 2; act++) x.act(0, act, 3);
        int[] due = {TOLD, 5, 0, 0, NOT_ANY, 0};
        for (int what = 0; what <= 5; what++) due(x.of(0, what), due[what]);
    }

    /** One of a kind whose number is 1. */
    private static BridgePairs second(int kind, int v) {
        BridgePairs x = roadWith(ONE, 0);
        x.one(kind, v, 0);
        return x;
    }

    private static void acts(BridgePairs x, int with, int waits, int crosses, int tells) {
        due(x.act(1, WAITS, with), waits);
        due(x.act(1, CROSSES, with), crosses);
        due(x.act(1, TELLS, with), tells);
    }

    // ---- promise 31

    static void traceOfNoPlace() {
        says("THE TRACE's i-th body. NONE.");
        BridgePairs x = roadWith(ONE, 0);
        for (int no : new int[] {LEAST, -1, 0, 1, 19, 20, MOST}) due(x.trace(no), NONE);
        x.act(0, CROSSES, 0);
        due(x.trace(0), 11);
        due(x.trace(1), 10);
        for (int no : new int[] {LEAST, -1, 2, 19, 20, 21, MOST}) due(x.trace(no), NONE);
    }

    static void traceOfTheLatest() {
        says("the bodies that ran in the latest act(), as they began");
        BridgePairs x = roadWith(TOLD, 0);
        x.one(ONE, 0, 0);
        trace(x, 0, TELLS, 40, 12, 70, 11, 71, 10, 10, 70, 11, 71, 10, 10);
        trace(x, 1, WAITS, 10);
        trace(x, 0, CROSSES, 70, 11, 71, 10, 10);
        trace(x, 0, WAITS, 71, 10);
    }

    static void tracesOfTheKinds() {
        says("the body of its KIND, or, if that has none, of the next KIND above that has one");
        BridgePairs x = new BridgePairs();
        for (int kind = 0; kind <= 5; kind++) x.one(kind, kind, 0);
        trace(x, ONE, WAITS, 10);
        trace(x, ONE, CROSSES, 11, 10);
        trace(x, ONE, TELLS, 12, 11, 10);
        trace(x, LOVER, WAITS, 10);
        trace(x, LOVER, CROSSES, 20, 11, 10);
        trace(x, LOVER, TELLS, 12, 20, 11, 10);
        trace(x, TWIN, WAITS, 30, 10);
        trace(x, TWIN, CROSSES, 11, 30, 10);
        trace(x, TWIN, TELLS, 12, 11, 30, 10);
        trace(x, DEBTOR, WAITS, 10);
        trace(x, DEBTOR, CROSSES, 11, 10);
        trace(x, DEBTOR, TELLS, 40, 12, 11, 10, 11, 10);
        trace(x, ENVOY, WAITS, 50, 10);
        trace(x, ENVOY, CROSSES, 51, 20, 11, 50, 10);
        trace(x, ENVOY, TELLS, 12, 51, 20, 11, 50, 10);
        trace(x, WIDOW, WAITS, 30, 10);
        trace(x, WIDOW, CROSSES, 11, 30, 10);
        trace(x, WIDOW, TELLS, 60, 12, 11, 30, 10);
    }

    private static void trace(BridgePairs x, int person, int act, int... bodies) {
        x.act(person, act, 3);
        for (int i = 0; i < bodies.length; i++) due(x.trace(i), bodies[i]);
        for (int i = bodies.length; i <= 20; i++) due(x.trace(i), NONE);
        due(x.count(7), bodies.length);
    }

    // ---- promise 32

    static void takenForNoKind() {
        says("BAD: k");
        BridgePairs x = roadWith(ONE, 0);
        for (int no : new int[] {LEAST, -1, 7, MOST}) due(x.taken(0, no), BAD);
    }

    static void takenOfNoOne() {
        says("NOTHING: no such one");
        BridgePairs x = roadWith(ONE, 0);
        for (int no : new int[] {LEAST, -1, 1, MOST}) due(x.taken(no, 0), NOTHING);
    }

    static void takenOfNoOneForNoKind() {
        says("BAD ahead of NOTHING");
        due(new BridgePairs().taken(0, 7), BAD);
        due(new BridgePairs().taken(0, -1), BAD);
        due(new BridgePairs().taken(0, 6), NOTHING);
    }

    static void takenForItsOwnOrAKindAbove() {
        says("One taken for one of KIND k (0 .. 6), or one under that: its KIND. CAST.");
        int[] above = {1, 1 | 2, 1 | 4, 1 | 8, 1 | 2 | 16, 1 | 4 | 32, 1 | 8 | 64};
        for (int kind = 0; kind <= 6; kind++) {
            BridgePairs x = roadWith(kind, 0);
            for (int k = 0; k <= 6; k++) due(x.taken(0, k), (above[kind] >> k & 1) == 1 ? kind : CAST);
        }
    }

    // ---- promise 33

    static void countOfNoWhat() {
        says("BAD.");
        for (int no : new int[] {LEAST, -1, 8, MOST}) due(road().count(no), BAD);
    }

    static void countAtMost() {
        says("How many: 0 PEOPLE, 1 BRIDGES, 2 CITIES, 3 SEEN, 4 of the PLAN, 5 of the BOOK, 6 bytes of THE TEXT");
        BridgePairs x = fanWith(ONE, 0);
        for (int p = 1; p <= 6; p++) x.one(0, 0, 0);
        for (int i = 0; i <= 6; i++) city(x, "dark 1");
        for (int i = 0; i <= 5; i++) x.see(0, 0, 0);
        for (int i = 0; i <= 8; i++) x.plan(0, 0);
        for (int i = 0; i <= 8; i++) x.book(0, 0);
        for (int i = 0; i <= 100; i++) x.feed(1);
        int[] due = {6, 8, 6, 5, 8, 8, 100, 0};
        for (int what = 0; what <= 7; what++) due(x.count(what), due[what]);
    }

    static void countOfBodies() {
        says("7 bodies that ran in the latest act() (all, kept or not)");
        BridgePairs x = roadWith(TOLD, 0);
        due(x.count(7), 0);
        x.act(0, TELLS, 0);
        due(x.count(7), 12);
        x.act(0, WAITS, 0);
        due(x.count(7), 2);
        x.act(1, WAITS, 0);
        due(x.count(7), 0);
    }

    // ---- promise 34

    static void tapeThatIsNone() {
        says("NONE: tape");
        BridgePairs x = new BridgePairs();
        for (int no : new int[] {LEAST, -1, 6, MOST}) due(x.tape(no, 0, 0), NONE);
        for (int tape = 0; tape <= 5; tape++) due(x.tape(tape, 0, 0), 1);
    }

    static void tapeOfNoSort() {
        says("BAD: sort");
        BridgePairs x = new BridgePairs();
        for (int no : new int[] {LEAST, -2, 5, MOST}) due(x.tape(0, no, 1), BAD);
        for (int sort = 0; sort <= 4; sort++) due(x.tape(0, sort, 1), 1);
    }

    static void tapeTooLong() {
        says("BAD: n above 60");
        BridgePairs x = new BridgePairs();
        for (int sort = 0; sort <= 4; sort++) {
            due(x.tape(0, sort, 61), BAD);
            due(x.tape(0, sort, MOST), BAD);
            due(x.read(0, 0), sort == 0 ? NO : 0);
            due(x.tape(0, sort, 60), 1);
            due(x.read(0, 59), 0);
            due(x.read(0, 60), NO);
        }
    }

    static void tapeBelowZero() {
        says("SIZE (-14): a size below 0");
        BridgePairs x = new BridgePairs();
        due(x.tape(0, 0, -1), SIZE);
        due(x.tape(0, 4, LEAST), SIZE);
        due(x.item(0, 0, 0), NOTHING);
    }

    static void tapeByWhatIsNamedFirst() {
        says("NONE ahead of BAD, BAD ahead of SIZE");
        BridgePairs x = new BridgePairs();
        due(x.tape(6, 5, 61), NONE);
        due(x.tape(6, 0, -1), NONE);
        due(x.tape(0, 5, -1), BAD);
        due(x.tape(0, -2, LEAST), BAD);
    }

    static void tapeOfNoItems() {
        says("A TAPE becomes a row of n (0 .. 60)");
        BridgePairs x = new BridgePairs();
        due(x.tape(0, 2, 0), 1);
        due(x.read(0, 0), NO);
        due(x.item(0, 0, 1), PLACE);
        due(x.shift(0, 0, 0, 0, 0), 0);
    }

    static void tapeThatHoldsNothing() {
        says("or holds nothing (sort -1: n does not matter): 1");
        BridgePairs x = new BridgePairs();
        for (int n : new int[] {LEAST, -1, 0, 61, MOST}) {
            x.tape(0, 3, 4);
            due(x.tape(0, -1, n), 1);
            due(x.read(0, 0), NO);
            due(x.item(0, 0, 1), NOTHING);
        }
    }

    static void tapeBecomesAllZero() {
        says("a row of n of a sort, all 0");
        BridgePairs x = new BridgePairs();
        x.tape(0, LONGS, 60);
        for (int i = 0; i <= 59; i++) x.item(0, i, -1);
        x.tape(0, BYTES, 2);
        due(x.read(0, 0) + x.read(0, 1), 0);
        x.tape(0, LONGS, 60);
        for (int i = 0; i <= 59; i++) due(x.read(0, i), 0);
    }

    static void tapesAreApart() {
        says("TAPES 0 .. 5 hold nothing (at first)");
        BridgePairs x = new BridgePairs();
        for (int tape = 0; tape <= 5; tape++) {
            due(x.read(tape, 0), NO);
            x.tape(tape, tape % 5, tape + 1);
            x.item(tape, tape, 1);
        }
        for (int tape = 0; tape <= 5; tape++) {
            due(x.read(tape, tape), 1);
            due(x.read(tape, tape + 1), NO);
        }
    }

    // ---- promise 35

    static void itemOfNoTape() {
        says("NONE");
        BridgePairs x = new BridgePairs();
        for (int no : new int[] {LEAST, -1, 6, MOST}) due(x.item(no, 0, 0), NONE);
    }

    static void itemOfNothing() {
        says("NOTHING");
        BridgePairs x = new BridgePairs();
        for (int i : new int[] {LEAST, -1, 0, 60, MOST}) due(x.item(5, i, 0), NOTHING);
    }

    static void itemOfNoPlace() {
        says("PLACE");
        BridgePairs x = new BridgePairs();
        x.tape(0, 3, 5);
        for (int no : new int[] {LEAST, -1, 5, 59, MOST}) due(x.item(0, no, 7), PLACE);
        for (int i = 0; i <= 4; i++) due(x.read(0, i), 0);
        due(x.item(0, 4, 7), 1);
        due(x.item(0, 0, 7), 1);
    }

    static void itemsWrap() {
        says("its lowest bits, as many as an item has");
        BridgePairs x = new BridgePairs();
        for (int sort = BYTES; sort <= LONGS; sort++) {
            x.tape(0, sort, 1);
            int bits = 8 << sort;
            long most = (1L << bits - 1) - 1;
            becomes(x, 0, 0);
            becomes(x, -1, -1);
            becomes(x, most, most);
            becomes(x, -most - 1, -most - 1);
            becomes(x, most + 1, -most - 1);
            becomes(x, -most - 2, most);
            becomes(x, 2 * most + 1, -1);
            becomes(x, 2 * most + 2, 0);
            becomes(x, NO, sort == LONGS ? NO : 0);
            becomes(x, Long.MAX_VALUE, sort == LONGS ? Long.MAX_VALUE : -1);
        }
    }

    static void itemsOfBooleans() {
        says("booleans: whether v is not 0");
        BridgePairs x = new BridgePairs();
        x.tape(0, BOOLEANS, 1);
        for (long v : new long[] {1, 0, 2, 0, -1, 0, 256, 0, 1L << 32, 0, NO}) becomes(x, v, v == 0 ? 0 : 1);
    }

    private static void becomes(BridgePairs x, long v, long item) {
        due(x.item(0, 0, v), 1);
        due(x.read(0, 0), item);
    }

    // ---- promise 36

    static void readOfNone() {
        says("NO: no such TAPE, nothing there, no such place.");
        BridgePairs x = new BridgePairs();
        x.tape(0, 0, 3);
        for (int no : new int[] {LEAST, -1, 6, MOST}) due(x.read(no, 0), NO);
        for (int no : new int[] {LEAST, -1, 3, 59, MOST}) due(x.read(0, no), NO);
        due(x.read(1, 0), NO);
        due(x.read(0, 2), 0);
    }

    // ---- promise 37

    private static BridgePairs fiveInts() {
        BridgePairs x = new BridgePairs();
        x.tape(0, INTS, 5);
        for (int i = 0; i <= 4; i++) x.item(0, i, i + 1);
        x.tape(1, INTS, 3);
        return x;
    }

    private static void row(BridgePairs x, int tape, long... items) {
        for (int i = 0; i < items.length; i++) due(x.read(tape, i), items[i]);
        due(x.read(tape, items.length), NO);
    }

    static void shiftOfNoTape() {
        says("NONE: tapes");
        BridgePairs x = fiveInts();
        for (int no : new int[] {LEAST, -1, 6, MOST}) {
            due(x.shift(no, 0, 0, 0, 1), NONE);
            due(x.shift(0, 0, no, 0, 1), NONE);
        }
    }

    static void shiftOfNothing() {
        says("NOTHING");
        BridgePairs x = fiveInts();
        due(x.shift(0, 0, 2, 0, 0), NOTHING);
        due(x.shift(2, 0, 0, 0, 0), NOTHING);
        due(x.shift(2, 0, 2, 0, 0), NOTHING);
        due(x.shift(2, 0, 3, 0, 0), NOTHING);
    }

    static void shiftOfUnlikeSorts() {
        says("CAST: of unlike sorts");
        BridgePairs x = new BridgePairs();
        for (int tape = 0; tape <= 4; tape++) x.tape(tape, tape, 3);
        for (int a = 0; a <= 4; a++) {
            for (int b = 0; b <= 4; b++) {
                due(x.shift(a, 0, b, 0, 2), a == b ? 2 : CAST);
                due(x.shift(a, 0, b, 0, 0), a == b ? 0 : CAST);
            }
        }
    }

    static void shiftBelowZero() {
        says("PLACE: n, i or j is below 0");
        BridgePairs x = fiveInts();
        for (int no : new int[] {LEAST, -1}) {
            due(x.shift(0, no, 1, 0, 1), PLACE);
            due(x.shift(0, 0, 1, no, 1), PLACE);
            due(x.shift(0, 0, 1, 0, no), PLACE);
            due(x.shift(0, no, 1, 0, 0), PLACE);
            due(x.shift(0, 0, 1, no, 0), PLACE);
        }
        due(x.shift(0, 3, 1, 2, -1), PLACE);
        row(x, 1, 0, 0, 0);
    }

    static void shiftBeyondTheEnd() {
        says("PLACE: .. or beyond either's end");
        BridgePairs x = fiveInts();
        due(x.shift(0, 3, 1, 0, 3), PLACE);
        due(x.shift(0, 5, 1, 0, 1), PLACE);
        due(x.shift(0, 6, 1, 0, 0), PLACE);
        due(x.shift(0, 0, 1, 1, 3), PLACE);
        due(x.shift(0, 0, 1, 3, 1), PLACE);
        due(x.shift(0, 0, 1, 4, 0), PLACE);
        due(x.shift(0, 0, 1, 0, 4), PLACE);
        due(x.shift(1, 0, 0, 0, 4), PLACE);
        for (int far : new int[] {MOST, MOST - 1}) {
            due(x.shift(0, far, 1, 0, 2), PLACE);
            due(x.shift(0, 0, 1, far, 2), PLACE);
            due(x.shift(0, 0, 1, 0, far), PLACE);
            due(x.shift(0, 2, 1, 2, far), PLACE);
            due(x.shift(0, far, 1, far, far), PLACE);
        }
        row(x, 0, 1, 2, 3, 4, 5);
        row(x, 1, 0, 0, 0);
    }

    static void shiftUpToTheEnd() {
        says("n items of a TAPE from i on come to another one from j on: n");
        BridgePairs x = fiveInts();
        due(x.shift(0, 2, 1, 0, 3), 3);
        row(x, 1, 3, 4, 5);
        due(x.shift(0, 0, 1, 2, 1), 1);
        row(x, 1, 3, 4, 1);
        due(x.shift(1, 0, 0, 2, 3), 3);
        row(x, 0, 1, 2, 3, 4, 1);
        row(x, 1, 3, 4, 1);
    }

    static void shiftOfNone() {
        says("n items of a TAPE: n");
        BridgePairs x = fiveInts();
        due(x.shift(0, 0, 1, 0, 0), 0);
        due(x.shift(0, 5, 1, 3, 0), 0);
        due(x.shift(0, 5, 0, 5, 0), 0);
        row(x, 0, 1, 2, 3, 4, 5);
        row(x, 1, 0, 0, 0);
    }

    static void shiftToTheSame() {
        says("(or the same) .., as they all were before");
        BridgePairs x = fiveInts();
        due(x.shift(0, 0, 0, 1, 4), 4);
        row(x, 0, 1, 1, 2, 3, 4);
        BridgePairs y = fiveInts();
        due(y.shift(0, 1, 0, 0, 4), 4);
        row(y, 0, 2, 3, 4, 5, 5);
        BridgePairs z = fiveInts();
        due(z.shift(0, 0, 0, 0, 5), 5);
        row(z, 0, 1, 2, 3, 4, 5);
    }

    static void shiftByWhatIsNamedFirst() {
        says("NONE ahead of NOTHING, NOTHING ahead of CAST, CAST ahead of PLACE");
        BridgePairs x = fiveInts();
        x.tape(3, LONGS, 5);
        due(x.shift(2, 0, 6, 0, 1), NONE);
        due(x.shift(6, 0, 2, 0, 1), NONE);
        due(x.shift(6, -1, 3, -1, -1), NONE);
        due(x.shift(2, -1, 0, -1, -1), NOTHING);
        due(x.shift(0, -1, 2, -1, -1), NOTHING);
        due(x.shift(0, -1, 3, -1, -1), CAST);
        due(x.shift(0, 9, 3, 9, 9), CAST);
    }
}
