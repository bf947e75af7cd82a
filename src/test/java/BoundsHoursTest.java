/** Boundary cases, sentence by sentence: hours, ways, sisters (promises 14 to 17, REACH and DONE). */
public final class BoundsHoursTest extends Bounds {
    private static final int ONE = 0, LOVER = 1, DEBTOR = 3, ENVOY = 4, WIDOW = 5;

    public static void main(String[] args) throws Exception { runAll(BoundsHoursTest.class); }

    /** One whose shortest way to 4 has 12 bridges. */
    private static BridgePairs twelveToFour() {
        BridgePairs x = bridges(1, 4, 0, 5, 2, 1, 3, 1, 0, 3, 1, 4, 2, 4, 0, 5);
        x.one(4, 9, 0);
        return x;
    }

    /** One whose shortest row to 3 would have 13 bridges; behind its first bridge it has 12. */
    private static BridgePairs thirteenToThree() {
        BridgePairs x = bridges(4, 1, 0, 5, 2, 4, 3, 0, 0, 4, 3, 1, 0, 5, 1, 2);
        x.one(4, 6, 0);
        x.cross(0, 3);
        return x;
    }

    // ---- promise 14

    static void passTooFewOrMany() {
        says("BAD (0 .. 12)");
        BridgePairs x = roadWith(ONE, 0);
        x.errand(0, 4);
        for (int no : new int[] {LEAST, -1, 13, MOST}) due(x.pass(no), BAD);
        due(x.told(0), 0);
        due(x.of(0, 2), 0);
    }

    static void passNoHour() {
        says("n HOURS (0 .. 12) go: HOUR.");
        BridgePairs x = roadWith(ONE, 0);
        x.errand(0, 4);
        due(x.pass(0), 0);
        due(x.of(0, 2), 0);
        x.pass(1);
        due(x.pass(0), 1);
        due(x.of(0, 2), 1);
    }

    static void passTwelve() {
        says("n HOURS (0 .. 12) go: HOUR.");
        BridgePairs x = twelveToFour();
        x.errand(0, 4);
        due(x.pass(11), 11);
        due(x.told(2), 0);
        BridgePairs y = twelveToFour();
        y.errand(0, 4);
        due(y.pass(12), 12);
        due(y.told(2), 1);
    }

    static void passWithoutPeople() {
        says("HOUR is 1 more.");
        BridgePairs x = new BridgePairs();
        due(x.pass(12), 12);
        due(x.pass(12), 24);
    }

    /** An object that has come to HOUR 9996; 512 calls don't reach so far, so what it answers is beyond what is promised. */
    private static BridgePairs lateWith(int kind, int v) {
        BridgePairs x = roadWith(kind, v);
        for (int i = 0; i < 833; i++) x.pass(12);
        return x;
    }

    static void passBeyondTheLastHour() {
        says("STATE: it would be above 9999.");
        BridgePairs x = lateWith(ONE, 0);
        x.errand(0, 4);
        for (int n = 4; n <= 12; n++) due(x.pass(n), STATE);
        due(x.told(0), 9996);
        due(x.of(0, 2), 0);
        due(x.pass(13), BAD);
        due(x.pass(2), 9998);
        due(x.pass(2), STATE);
        due(x.pass(1), 9999);
        due(x.pass(1), STATE);
        due(x.pass(0), 9999);
        due(x.of(0, 2), 3);
    }

    static void askedBeyondTheLastHour() {
        says("goes on from how all is (HOURS beyond 9999, too)");
        BridgePairs x = lateWith(ONE, 0);
        x.pass(3);
        city(x, "dark 2");
        x.errand(0, 4);
        due(x.on(1, 10), 1);
        due(x.on(3, 10), 1);
        due(x.on(4, 10), 2);
        due(x.on(6, 0), 1);
        due(x.of(0, 7), 6);
        x.see(0, 6, 4);
        x.see(0, 3, 1);
        due(x.from(0) & 1, 1);
        due(x.can(0, 0), 10);
        for (int i = 0; i < 6; i++) x.plan(0, 0);
        due(x.ends(0), 1);
        due(x.told(0), 9999);
    }

    static void noErrandNoGoing() {
        says("each one with an ERRAND");
        BridgePairs x = roadWith(ONE, 0);
        x.cross(0, 0);
        x.pass(12);
        due(x.of(0, 2), 1);
        due(x.of(0, 5), 1);
    }

    static void onlyThoseWithAnErrand() {
        says("each one with an ERRAND where it not TRULY is");
        BridgePairs x = roadWith(ONE, 0);
        for (int p = 1; p <= 5; p++) x.one(0, 0, 0);
        for (int p = 0; p <= 5; p += 5) x.errand(p, 2);
        x.pass(1);
        for (int p = 0; p <= 5; p++) due(x.of(p, 2), p % 5 == 0 ? 1 : 0);
    }

    static void trulyThereStays() {
        says("an ERRAND where it not TRULY is");
        BridgePairs x = roadWith(ONE, 0);
        x.errand(0, 0);
        x.pass(12);
        due(x.of(0, 2), 0);
        due(x.of(0, 5), 0);
        x.errand(0, 2);
        x.pass(12);
        due(x.of(0, 2), 2);
        due(x.told(2), 1);
    }

    static void thereButNotTrulyGoes() {
        says("an ERRAND where it not TRULY is: AT it and none is HALF");
        BridgePairs x = bridges(0, 1, 1, 2, 2, 0, 0, 1);
        x.one(0, 0, 0);
        x.cross(0, 0);
        x.errand(0, 1);
        due(x.told(2), 0);
        due(x.way(0, 1, -1), 3);
        due(x.of(0, 7), 3);
        x.pass(1);
        due(x.of(0, 2), 2);
        due(x.of(0, 5), 0);
        x.pass(2);
        due(x.of(0, 2), 1);
        due(x.told(2), 1);
    }

    static void noWayStays() {
        says("the SHORTEST WAY there, if there is one");
        BridgePairs x = roadWith(ONE, 0);
        x.errand(0, 1);
        due(x.way(0, 1, -1), NOT_ANY);
        due(x.pass(3), 3);
        due(x.of(0, 2) + x.of(0, 5), 0);
        BridgePairs far = thirteenToThree();
        int at = far.of(0, 2), half = far.of(0, 5);
        far.errand(0, 3);
        far.pass(12);
        due(far.of(0, 2), at);
        due(far.of(0, 5), half);
    }

    static void oneBridgeAnHour() {
        says("CROSSES the first BRIDGE of the SHORTEST WAY there");
        BridgePairs x = roadWith(ONE, 0);
        x.errand(0, 4);
        int[] half = {0, 1, 0, 4, 0};
        for (int n = 1; n <= 4; n++) {
            due(x.pass(1), n);
            due(x.of(0, 2), n);
            due(x.of(0, 5), half[n]);
            due(x.of(0, 3), n / 2 * 2);
        }
    }

    static void darkByHourModulo10() {
        says("not, if HOUR modulo 10 is less than DARK");
        BridgePairs x = roadWith(ONE, 0);
        city(x, "dark 3");
        x.errand(0, 2);
        due(x.pass(3), 3);
        due(x.of(0, 2), 0);
        due(x.pass(1), 4);
        due(x.of(0, 2), 1);
        x.pass(6);
        due(x.told(0), 10);
        due(x.of(0, 2), 2);
        x.errand(0, 4);
        x.pass(3);
        due(x.told(0), 13);
        due(x.of(0, 2), 2);
        x.pass(1);
        due(x.of(0, 2), 3);
    }

    static void darkOfNothing() {
        says("DARK (0 without)");
        BridgePairs x = roadWith(ONE, 0);
        city(x, "dark 0");
        x.errand(0, 2);
        x.pass(1);
        due(x.of(0, 2), 1);
    }

    static void darkAlmostAlways() {
        says("not, if HOUR modulo 10 is less than DARK");
        BridgePairs x = roadWith(ONE, 0);
        city(x, "dark 9");
        x.errand(0, 2);
        x.pass(9);
        due(x.of(0, 2), 0);
        x.pass(1);
        due(x.of(0, 2), 1);
        x.pass(9);
        due(x.of(0, 2), 1);
        x.pass(1);
        due(x.of(0, 2), 2);
    }

    static void darkAlways() {
        says("not, if HOUR modulo 10 is less than DARK");
        for (String dark : new String[] {"dark 10", "dark 99"}) {
            BridgePairs x = roadWith(ONE, 0);
            city(x, dark);
            x.errand(0, 2);
            due(x.pass(12), 12);
            due(x.pass(12), 24);
            due(x.of(0, 2), 0);
        }
    }

    static void hourInCitiesAsItGoes() {
        says("by how all is ahead of it");
        BridgePairs x = roadWith(ONE, 0);
        city(x, "bar 3 h>0");
        x.errand(0, 2);
        x.pass(1);
        due(x.of(0, 2), 1);
        x.pass(9);
        due(x.told(0), 10);
        due(x.of(0, 2), 1);
        x.pass(1);
        due(x.of(0, 2), 2);
    }

    // ---- promise 15

    static void onTooFewOrMany() {
        says("BAD: n");
        BridgePairs x = roadWith(ONE, 0);
        for (int no : new int[] {LEAST, -1, 13, MOST}) {
            due(x.on(no, 0), BAD);
            due(x.on(no, 10), BAD);
            due(x.on(no, 30), BAD);
        }
    }

    static void onOfNoWhat() {
        says("NONE");
        BridgePairs x = new BridgePairs();
        for (int p = 0; p <= 5; p++) x.one(0, 0, p);
        for (int no : new int[] {LEAST, -10, -1, 1, 5, 9, 16, 19, 26, 29, 36, 39, 40, 45, 100, MOST}) due(x.on(0, no), NONE);
        for (int p = 0; p <= 5; p++) {
            due(x.on(0, 10 + p), p);
            due(x.on(0, 20 + p), p);
            due(x.on(0, 30 + p), 0);
        }
    }

    static void onOfNoOne() {
        says("NONE");
        BridgePairs x = roadWith(ONE, 0);
        for (int no : new int[] {11, 21, 31, 15, 25, 35}) due(x.on(0, no), NONE);
        due(new BridgePairs().on(0, 10), NONE);
        due(new BridgePairs().on(0, 0), 0);
    }

    static void onOfNoOneAndTooMany() {
        says("NONE ahead of BAD");
        BridgePairs x = roadWith(ONE, 0);
        due(x.on(13, 11), NONE);
        due(x.on(-1, 1), NONE);
    }

    static void onNoHour() {
        says("ON n HOURS (0 .. 12)");
        BridgePairs x = roadWith(ONE, 0);
        x.errand(0, 4);
        x.cross(0, 0);
        due(x.on(0, 10), 1);
        due(x.on(0, 20), 0);
        due(x.on(0, 30), 1);
        due(x.on(0, 0), 0);
    }

    static void onTwelveHours() {
        says("ON n HOURS (0 .. 12)");
        BridgePairs x = twelveToFour();
        x.errand(0, 4);
        due(x.on(11, 0), 0);
        due(x.on(12, 0), 1);
        due(x.on(12, 10), 4);
        due(x.on(12, 20), 4);
        due(x.on(12, 30), 0);
    }

    static void onIsAsPassIs() {
        says("ON: 0 who TRULY is where its ERRAND is (bits), AT, SAID, HALF");
        for (int n = 0; n <= 12; n++) {
            BridgePairs x = threeWithErrands(), y = threeWithErrands();
            y.pass(n);
            due(x.on(n, 0), y.told(2));
            for (int p = 0; p <= 2; p++) {
                due(x.on(n, 10 + p), y.of(p, 2));
                due(x.on(n, 20 + p), y.of(p, 3));
                due(x.on(n, 30 + p), y.of(p, 5));
            }
        }
    }

    private static BridgePairs threeWithErrands() {
        BridgePairs x = road();
        x.one(ONE, 0, 0);
        x.one(LOVER, 9, 4);
        x.one(WIDOW, 0, 2);
        x.errand(0, 4);
        x.errand(1, 0);
        x.errand(2, 4);
        city(x, "dark 2");
        x.pass(5);
        return x;
    }

    static void onInTheDark() {
        says("All that follows is asked, goes on from how all is");
        BridgePairs x = roadWith(ONE, 0);
        city(x, "dark 4");
        x.errand(0, 2);
        due(x.on(4, 10), 0);
        due(x.on(5, 10), 1);
        x.pass(3);
        due(x.on(1, 10), 0);
        due(x.on(2, 10), 1);
    }

    static void onChangesNothing() {
        says("and changes nothing");
        BridgePairs x = roadWith(ONE, 0);
        x.errand(0, 4);
        x.on(12, 10);
        x.on(12, 0);
        due(x.told(0) + x.of(0, 2) + x.of(0, 5), 0);
    }

    // ---- promise 16

    static void wayOfNone() {
        says("NONE.");
        BridgePairs x = roadWith(ONE, 0);
        for (int no : new int[] {LEAST, -1, 1, MOST}) due(x.way(no, 0, -1), NONE);
        for (int no : new int[] {LEAST, -1, 6, MOST}) due(x.way(0, no, -1), NONE);
        for (int no : new int[] {LEAST, -2, 12, MOST}) due(x.way(0, 4, no), NONE);
    }

    static void wayByFewer() {
        says("the k-th (0 .. 11; -5: there are fewer)");
        BridgePairs x = roadWith(ONE, 0);
        due(x.way(0, 4, -1), 4);
        for (int k = 0; k <= 11; k++) due(x.way(0, 4, k), k < 4 ? k : NOT_ANY);
    }

    static void wayThatIsNot() {
        says("LONG (-5: there is none)");
        BridgePairs x = roadWith(ONE, 0);
        for (int k = -1; k <= 11; k++) {
            due(x.way(0, 5, k), NOT_ANY);
            due(x.way(0, 1, k), NOT_ANY);
        }
    }

    static void wayWithoutBridges() {
        says("no BRIDGES, if it TRULY is there now");
        BridgePairs x = roadWith(ONE, 0);
        due(x.way(0, 0, -1), 0);
        for (int k = 0; k <= 11; k++) due(x.way(0, 0, k), NOT_ANY);
        BridgePairs none = new BridgePairs();
        none.one(0, 0, 5);
        due(none.way(0, 5, -1), 0);
        due(none.way(0, 0, -1), NOT_ANY);
    }

    static void wayBackWhenHalf() {
        says("behind which it TRULY is there");
        BridgePairs x = roadWith(ONE, 0);
        x.cross(0, 0);
        due(x.way(0, 1, -1), NOT_ANY);
        due(x.way(0, 0, -1), 1);
        due(x.way(0, 0, 0), 0);
        due(x.way(0, 2, -1), 1);
        due(x.way(0, 2, 0), 1);
    }

    static void wayOfTwelve() {
        says("the SHORTEST: one with the fewest BRIDGES, 12 at most");
        BridgePairs x = twelveToFour();
        due(x.way(0, 4, -1), 12);
        int at = 0;
        for (int k = 0; k <= 11; k++) {
            int b = x.way(0, 4, k);
            due(x.span(b, 0) == at || x.span(b, 1) == at ? 1 : 0, 1);
            at = x.span(b, 0) + x.span(b, 1) - at;
        }
        due(at, 4);
        for (int k = 0; k <= 11; k++) {
            int b = x.way(0, 4, 0);
            due(x.way(0, 4, -1), 12 - k);
            x.cross(0, b);
        }
        due(x.way(0, 4, -1), 0);
    }

    static void wayOfThirteen() {
        says("12 at most");
        BridgePairs x = thirteenToThree();
        due(x.way(0, 3, -1), NOT_ANY);
        for (int k = 0; k <= 11; k++) due(x.way(0, 3, k), NOT_ANY);
        due(fewestBehindOneBridge(x, 3), 12);
    }

    /** LONG when one bridge has been crossed, the best of all. */
    private static int fewestBehindOneBridge(BridgePairs x, int quarter) {
        int fewest = 99;
        int may = x.of(0, 8);
        x.image();
        for (int b = 0; b <= 7; b++) {
            if ((may >> b & 1) == 0) continue;
            x.cross(0, b);
            int length = x.way(0, quarter, -1);
            if (length >= 0) fewest = Math.min(fewest, length);
            x.undo();
        }
        return fewest;
    }

    static void wayOfSeveralTheFirst() {
        says("of several the first as a row of numbers");
        BridgePairs x = fanWith(ONE, 0);
        // To come back to 0 truly from one half bridge: by itself or by its sister.
        x.cross(0, 5);
        due(x.way(0, 0, 0), 4);
        x.cross(0, 5);
        x.cross(0, 4);
        due(x.way(0, 0, 0), 4);
        BridgePairs y = bridges(1, 2, 0, 1, 0, 1, 1, 2);
        y.one(0, 0, 0);
        due(y.way(0, 2, 0) * 10 + y.way(0, 2, 1), 10);
        y.lose(1, true);
        due(y.way(0, 2, 0) * 10 + y.way(0, 2, 1), 23);
        BridgePairs z = bridges(0, 1, 1, 2, 0, 3, 3, 2);
        z.one(0, 0, 0);
        due(z.way(0, 2, 0) * 10 + z.way(0, 2, 1), 1);
        due(z.way(0, 2, 2), NOT_ANY);
    }

    static void wayTheFewestNotTheFirst() {
        says("the SHORTEST: one with the fewest BRIDGES");
        BridgePairs x = bridges(0, 1, 1, 2, 2, 3, 3, 4, 0, 5, 5, 4);
        x.one(0, 0, 0);
        due(x.way(0, 4, -1), 2);
        due(x.way(0, 4, 0) * 10 + x.way(0, 4, 1), 45);
        x.lose(5, true);
        due(x.way(0, 4, -1), 4);
        due(x.way(0, 4, 0), 0);
    }

    static void wayByTheHourAsItIsNow() {
        says("HOUR being as it is now, all along");
        BridgePairs x = roadWith(ONE, 0);
        city(x, "bar 3 h=1");
        due(x.way(0, 4, -1), 4);
        x.pass(1);
        due(x.way(0, 4, -1), NOT_ANY);
        due(x.way(0, 0, -1), 0);
    }

    static void wayInTheDark() {
        says("a row of BRIDGES, each of which it MAY cross when it comes to it");
        BridgePairs x = roadWith(ONE, 0);
        city(x, "dark 99");
        due(x.way(0, 4, -1), 4);
    }

    static void wayByHalfAsItComes() {
        says("HALF as it comes");
        BridgePairs x = roadWith(ONE, 0);
        city(x, "bar 3 n=1");
        due(x.way(0, 2, -1), NOT_ANY);
        city(x, "bar 3 n=0");
        due(x.way(0, 2, -1), NOT_ANY);
        city(x, "bar 3 n>1");
        due(x.way(0, 2, -1), 2);
        BridgePairs debtor = bridges(0, 1, 2, 3, 1, 2, 3, 4);
        debtor.one(DEBTOR, 0, 0);
        debtor.one(ONE, 0, 0);
        // Two bridges are half behind 0 and 2: a debtor may cross no more then.
        due(debtor.way(0, 4, -1), NOT_ANY);
        due(debtor.way(1, 4, -1), 4);
    }

    static void wayOverLostBridges() {
        says("if that is not LOST (a WIDOW also, if it is)");
        BridgePairs x = roadWith(ONE, 0);
        x.one(WIDOW, 0, 0);
        x.lose(1, true);
        due(x.way(0, 2, -1), NOT_ANY);
        due(x.way(1, 2, -1), 2);
    }

    // ---- reach and done

    static void reachOfItsOwnQuarter() {
        says("those QUARTERS, as bits, to which there is a WAY");
        BridgePairs x = new BridgePairs();
        for (int q = 0; q <= 5; q++) {
            x.one(0, 0, q);
            due(x.of(q, 6), 1 << q);
        }
    }

    static void reachWhenHalf() {
        says("those QUARTERS, as bits, to which there is a WAY");
        BridgePairs x = roadWith(ONE, 0);
        due(x.of(0, 6), 1 | 4 | 16);
        x.cross(0, 0);
        due(x.of(0, 6), 1 | 4 | 16);
        x.lose(0, true);
        x.lose(1, true);
        due(x.of(0, 6), 0);
    }

    static void reachOfTwelve() {
        says("REACH: .. with 12 BRIDGES at most");
        due(twelveToFour().of(0, 6) >> 4 & 1, 1);
        due(thirteenToThree().of(0, 6) >> 3 & 1, 0);
    }

    static void reachIsWhereAWayIs() {
        says("REACH of one: those QUARTERS, as bits, to which there is a WAY");
        for (BridgePairs x : new BridgePairs[] {twelveToFour(), thirteenToThree(), roadWith(LOVER, 1), fanWith(ENVOY, 3)}) {
            for (int q = 0; q <= 5; q++) due(x.of(0, 6) >> q & 1, x.way(0, q, -1) >= 0 ? 1 : 0);
            due(x.of(0, 6) >> 6, 0);
        }
    }

    static void doneNow() {
        says("DONE: the fewest HOURS (0 .. 20)");
        BridgePairs x = roadWith(ONE, 0);
        x.errand(0, 0);
        due(x.of(0, 7), 0);
        x.cross(0, 0);
        due(x.of(0, 7), 1);
    }

    static void doneInTwenty() {
        says("DONE: the fewest HOURS (0 .. 20)");
        BridgePairs x = roadWith(ONE, 0);
        city(x, "dark 9");
        x.errand(0, 2);
        due(x.of(0, 7), 20);
        x.pass(1);
        due(x.of(0, 7), 19);
    }

    static void doneInTwentyOne() {
        says("-5: not by then");
        BridgePairs x = bridges(0, 1, 1, 2, 2, 0, 0, 1);
        x.one(0, 0, 0);
        x.cross(0, 0);
        city(x, "dark 9");
        x.pass(9);
        x.errand(0, 1);
        due(x.way(0, 1, -1), 3);
        due(x.of(0, 7), NOT_ANY);
        x.pass(1);
        due(x.of(0, 7), 20);
    }

    static void doneWithoutErrand() {
        says("-5: .. or it has none");
        BridgePairs x = roadWith(ONE, 0);
        due(x.of(0, 7), NOT_ANY);
        x.errand(0, 0);
        x.errand(0, -1);
        due(x.of(0, 7), NOT_ANY);
    }

    static void doneNever() {
        says("-5: not by then");
        BridgePairs x = roadWith(ONE, 0);
        x.errand(0, 5);
        due(x.of(0, 7), NOT_ANY);
        x.errand(0, 1);
        due(x.of(0, 7), NOT_ANY);
    }

    // ---- promise 17

    static void sistersOfNone() {
        says("NONE.");
        BridgePairs x = roadWith(ONE, 0);
        for (int no : new int[] {LEAST, -1, 1, MOST}) due(x.sisters(no, 0), NONE);
        for (int no : new int[] {LEAST, -1, 6, MOST}) due(x.sisters(0, no), NONE);
    }

    static void sistersWithFewBridges() {
        says("of several the first; -5: none");
        BridgePairs x = new BridgePairs();
        x.one(0, 0, 0);
        due(x.sisters(0, 1), NOT_ANY);
        x.bridge(0, 1);
        due(x.sisters(0, 1), NOT_ANY);
        x.bridge(1, 2);
        due(x.sisters(0, 1), NOT_ANY);
        due(x.sisters(0, 2), NOT_ANY);
    }

    static void sistersToAQuarterWithoutWay() {
        says("-5 being greater than all");
        BridgePairs x = bridges(0, 1, 3, 4, 4, 5, 1, 2);
        x.one(0, 0, 0);
        due(x.way(0, 2, -1), NOT_ANY);
        due(x.sisters(0, 2), 2);
        x.swap(0, 2);
        due(x.way(0, 2, -1), 2);
    }

    static void sistersToAWayOfTwelve() {
        says("-5 being greater than all");
        int[] ends = {2, 3, 2, 3, 0, 1, 3, 4, 1, 0, 5, 4, 2, 1, 3, 5};
        BridgePairs x = bridges(ends);
        x.one(ENVOY, 6, 0);
        due(x.way(0, 3, -1), NOT_ANY);
        due(x.sisters(0, 3), 2);
        x.swap(0, 2);
        due(x.way(0, 3, -1), 12);
    }

    static void sistersByNeighbours() {
        says("the two BRIDGES (10 times the lesser and the greater number)");
        BridgePairs x = bridges(5, 4, 0, 1, 0, 5, 1, 2);
        x.one(0, 0, 0);
        // 1 and 3 lead to 2.
        due(x.sisters(0, 2), 3);
        x.swap(0, 2);
        due(x.span(1, 2), 2);
        due(x.way(0, 2, -1), NOT_ANY);
        due(x.sisters(0, 2), 1);
        x.swap(0, 1);
        due(x.span(1, 2), 3);
        due(x.way(0, 2, -1), 2);
    }

    static void sistersToNowhere() {
        says("if less than as it is");
        BridgePairs x = bridges(0, 1, 3, 4, 4, 5, 1, 2);
        x.one(0, 0, 0);
        due(x.sisters(0, 5), NOT_ANY);
        due(x.sisters(0, 0), NOT_ANY);
    }

    static void sistersThatMakeNoLess() {
        says("if less than as it is");
        BridgePairs x = bridges(0, 1, 1, 2, 0, 3, 3, 2);
        x.one(0, 0, 0);
        due(x.way(0, 2, -1), 2);
        due(x.sisters(0, 2), NOT_ANY);
    }

    static void sistersBothWithOne() {
        says("both with one");
        BridgePairs x = bridges(0, 1, 3, 4, 1, 2);
        x.one(0, 0, 0);
        due(x.way(0, 2, -1), NOT_ANY);
        due(x.sisters(0, 2), NOT_ANY);
        x.bridge(4, 5);
        due(x.sisters(0, 2), 3);
    }

    static void sistersOfSeveralTheFirst() {
        says("of several the first");
        // To swap 1 and 3 makes 0 and 3 sisters as well as to swap 0 and 2 does.
        for (int[] pair : new int[][] {{0, 2}, {1, 3}}) {
            BridgePairs x = bridges(0, 1, 3, 4, 4, 5, 1, 2);
            x.one(0, 0, 0);
            due(x.sisters(0, 2), 2);
            x.swap(pair[0], pair[1]);
            due(x.way(0, 2, -1), 2);
        }
    }

    static void sistersByTheLeast() {
        says("so that LONG is least");
        // By 0 and 2 the way goes over 0 and 3, then 4 and 5; by 0 and 4 over 0 and 5 at once.
        BridgePairs x = bridges(0, 1, 3, 5, 5, 4, 1, 2, 2, 3, 1, 3);
        x.one(0, 0, 0);
        int first = longBehindSwap(0, 2), second = longBehindSwap(0, 4);
        due(second, 2);
        due(first > second || first == NOT_ANY ? 1 : 0, 1);
        due(x.sisters(0, 3), 4);
    }

    private static int longBehindSwap(int a, int b) {
        BridgePairs x = bridges(0, 1, 3, 5, 5, 4, 1, 2, 2, 3, 1, 3);
        x.one(0, 0, 0);
        x.swap(a, b);
        return x.way(0, 3, -1);
    }

    static void sistersByTheLastPair() {
        says("10 times the lesser and the greater number");
        // Eight bridges, of which 5 and 6 alone lead from 0 to 2.
        BridgePairs x = bridges(3, 4, 4, 3, 3, 4, 4, 3, 3, 5, 0, 1, 1, 2, 3, 5);
        x.one(0, 0, 0);
        due(x.way(0, 2, -1), NOT_ANY);
        due(x.sisters(0, 2), 46);
        x.swap(4, 6);
        due(x.span(5, 2), 6);
        due(x.way(0, 2, -1), 2);
    }

    static void sistersByHalfAsItIs() {
        says("SISTERS for one and a QUARTER");
        BridgePairs x = bridges(0, 1, 3, 4, 4, 5, 1, 2);
        x.one(0, 0, 0);
        x.cross(0, 0);
        due(x.sisters(0, 2), 2);
        due(x.sisters(0, 0), NOT_ANY);
        due(x.span(0, 2), 1);
        due(x.span(3, 2), 2);
    }
}
