/** What is asked of one is asked of that one, whatever its number and whoever else is there. */
public final class BoundsPeopleTest extends Bounds {
    private static final int PEOPLE = 6, BRIDGES = 8, QUARTERS = 6;
    private static final int[] KINDS = {6, 1, 5, 3, 2, 4}, VS = {3, 8, 0, 5, 9, 6}, STARTS = {0, 1, 2, 3, 0, 1};
    private static final int[] ERRANDS = {2, 4, 0, 1, -1, 3};
    /** Of each the first bridges that it crosses. */
    private static final int[][] CROSSED = {{0}, {1, 2}, {}, {2}, {0, 1, 2}, {}};

    public static void main(String[] args) throws Exception { runAll(BoundsPeopleTest.class); }

    private static BridgePairs town() {
        BridgePairs x = bridges(0, 1, 1, 2, 2, 3, 3, 0, 1, 4, 4, 0, 0, 2, 3, 4);
        city(x, "grant 2 k=6|v>4;grant 1 b<4&n>0;bar 2 h=3&b>5;dark 1");
        return x;
    }

    private static int come(BridgePairs x, int p) {
        int number = x.one(KINDS[p], VS[p], STARTS[p]);
        if (KINDS[p] == 6) for (int part = 0; part < 4; part++) x.row(number, part, 5 + part);
        x.errand(number, ERRANDS[p]);
        for (int b : CROSSED[p]) due(x.cross(number, b) >= 0 ? 1 : 0, 1);
        return number;
    }

    private static BridgePairs townOfAll() {
        BridgePairs x = town();
        for (int p = 0; p < PEOPLE; p++) due(come(x, p), p);
        return x;
    }

    private static BridgePairs townOf(int p) {
        BridgePairs x = town();
        due(come(x, p), 0);
        return x;
    }

    // ---- the same alone, as number 0, and among six; no test of this city is of p

    static void ofOneAmongOthers() {
        says("Of one what ..");
        BridgePairs all = townOfAll();
        for (int p = 0; p < PEOPLE; p++) {
            BridgePairs alone = townOf(p);
            for (int what = 0; what < 10 + BRIDGES; what++) due(all.of(p, what), alone.of(0, what));
        }
    }

    static void waysOfOneAmongOthers() {
        says("LONG of one and a QUARTER; SISTERS for one and a QUARTER; ODDS of one and a QUARTER");
        BridgePairs all = townOfAll();
        for (int p = 0; p < PEOPLE; p++) {
            BridgePairs alone = townOf(p);
            for (int q = 0; q < QUARTERS; q++) {
                for (int k = -1; k < 12; k++) due(all.way(p, q, k), alone.way(0, q, k));
                due(all.sisters(p, q), alone.sisters(0, q));
                for (int part = 0; part < 2; part++) due(all.odds(p, q, part), alone.odds(0, q, part));
            }
        }
    }

    static void hoursOfOneAmongOthers() {
        says("ON n HOURS: where one is AT; where it is SAID to be; HALF of one");
        BridgePairs all = townOfAll();
        for (int p = 0; p < PEOPLE; p++) {
            BridgePairs alone = townOf(p);
            for (int n = 0; n <= 12; n++) {
                for (int what = 10; what < 40; what += 10) due(all.on(n, what + p), alone.on(n, what));
                due(all.on(n, 0) >> p & 1, alone.on(n, 0));
            }
        }
    }

    static void passOfOneAmongOthers() {
        says("An HOUR goes: each one with an ERRAND where it not TRULY is");
        BridgePairs all = townOfAll();
        BridgePairs[] alone = new BridgePairs[PEOPLE];
        for (int p = 0; p < PEOPLE; p++) alone[p] = townOf(p);
        for (int n = 0; n < 15; n++) {
            all.pass(1);
            for (int p = 0; p < PEOPLE; p++) {
                alone[p].pass(1);
                for (int what = 2; what < 9; what++) due(all.of(p, what), alone[p].of(0, what));
            }
        }
    }

    static void seenOfOneAmongOthers() {
        says("FROM of one: .. all of SEEN that is of it is so. CAN of one: likewise");
        BridgePairs all = townOfAll();
        for (int p = 0; p < PEOPLE; p++) {
            BridgePairs alone = townOf(p);
            for (int n = 0; n <= 8; n += 2) {
                for (int q = 0; q < QUARTERS; q++) {
                    all.see(-1, 0, 0);
                    alone.see(-1, 0, 0);
                    // What is seen of another doesn't matter.
                    all.see((p + 1) % PEOPLE, n, 5);
                    all.see(p, n, q);
                    alone.see(0, n, q);
                    due(all.from(p), alone.from(0));
                    for (int what = 0; what < 2; what++) due(all.can(p, what), alone.can(0, what));
                }
            }
        }
    }

    // ---- the same by numbers

    static void doneOfEach() {
        says("DONE of one");
        BridgePairs x = road();
        for (int p = 0; p < PEOPLE; p++) x.one(0, 0, p < 5 ? p : 0);
        for (int p = 0; p < 5; p++) x.errand(p, 2);
        int[] done = {2, NOT_ANY, 0, NOT_ANY, 2, NOT_ANY};
        for (int p = 0; p < PEOPLE; p++) due(x.of(p, 7), done[p]);
        x.errand(5, 4);
        due(x.of(5, 7), 4);
        x.errand(0, -1);
        due(x.of(0, 7), NOT_ANY);
        due(x.of(5, 7), 4);
    }

    static void fromAndCanOfEach() {
        says("were it AT that now; were that its v");
        BridgePairs x = road();
        x.one(0, 0, 5);
        for (int p = 1; p < PEOPLE; p++) {
            x.one(1, 9, 0);
            x.errand(p, 2);
            x.see(-1, 0, 0);
            x.see(p, 2, 2);
            due(x.from(p), 1 | 1 << 2 | 1 << 4);
            // A bridge with an odd number takes 3 and v, 5 less.
            due(x.can(p, 0), 7);
            due(x.can(p, 1), 3);
            due(x.from(0), 63);
            due(x.can(0, 0), 10);
        }
    }

    static void takenOfEach() {
        says("One taken for one of KIND k, or one under that: its KIND");
        BridgePairs x = townOfAll();
        for (int p = 0; p < PEOPLE; p++) {
            due(x.taken(p, 0), KINDS[p]);
            due(x.taken(p, KINDS[p]), KINDS[p]);
        }
        due(x.taken(1, 2), CAST);
        due(x.taken(2, 2), 5);
        due(x.taken(5, 1), 4);
    }

    static void actsOfEach() {
        says("ACTS of one with x: .. i its number");
        BridgePairs x = new BridgePairs();
        for (int p = 0; p < PEOPLE; p++) x.one(0, p, 0);
        for (int p = 0; p < PEOPLE; p++) {
            due(x.act(p, 0, 10), 10 + p);
            due(x.act(p, 1, 10), 10);
            due(x.act(p, 2, 10), 20);
        }
    }

    static void judgedWithoutBridges() {
        says("HALF told by a row of shorts .. is JUDGED");
        BridgePairs x = new BridgePairs();
        x.one(0, 0, 0);
        x.one(0, 0, 0);
        x.tape(0, 1, 2);
        due(x.judge(0, 0), NOT_ANY);
        x.item(0, 1, 1);
        due(x.judge(0, 0), 1);
        due(x.judge(0, 1), 0);
        due(x.judge(0, 2), 100);
        due(x.judge(1, 0), 100);
    }

    // ---- what is asked is asked of how all is now, not of how it was when something was asked before

    static void sistersByHowAllIsNow() {
        says("SISTERS .. so that LONG is least, if less than as it is");
        BridgePairs x = bridges(0, 1, 3, 4, 4, 5, 1, 2);
        x.one(0, 0, 0);
        due(x.sisters(0, 2), 2);
        x.swap(0, 2);
        due(x.way(0, 2, -1), 2);
        due(x.sisters(0, 2), NOT_ANY);
        x.image();
        x.swap(0, 1);
        due(x.way(0, 2, -1), NOT_ANY);
        due(x.sisters(0, 2), 1);
        x.undo();
        due(x.sisters(0, 2), NOT_ANY);
    }
}
