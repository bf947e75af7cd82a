/** Boundary cases, sentence by sentence: seen, odds, plans, books (promises 18 to 26). */
public final class BoundsSeenTest extends Bounds {
    private static final int ONE = 0, LOVER = 1, WIDOW = 5;

    public static void main(String[] args) throws Exception { runAll(BoundsSeenTest.class); }

    // ---- promise 18

    static void seeOfNone() {
        says("NONE: person, quarter");
        BridgePairs x = roadWith(ONE, 0);
        for (int no : new int[] {LEAST, -2, 1, MOST}) due(x.see(no, 0, 0), NONE);
        for (int no : new int[] {LEAST, -1, 6, MOST}) due(x.see(0, 0, no), NONE);
        due(new BridgePairs().see(0, 0, 0), NONE);
        due(x.count(3), 0);
    }

    static void seeTooFewOrManyHours() {
        says("BAD: n (0 .. 8)");
        BridgePairs x = roadWith(ONE, 0);
        for (int no : new int[] {LEAST, -1, 9, MOST}) due(x.see(0, no, 0), BAD);
        due(x.see(0, 0, 0), 1);
        due(x.see(0, 8, 5), 2);
    }

    static void seeByWhatIsNamedFirst() {
        says("NONE ahead of BAD, BAD ahead of FULL");
        BridgePairs x = roadWith(ONE, 0);
        due(x.see(1, 9, 0), NONE);
        due(x.see(0, 9, 6), NONE);
        for (int i = 0; i < 5; i++) x.see(0, 0, 0);
        due(x.see(1, 0, 0), NONE);
        due(x.see(0, 0, 6), NONE);
        due(x.see(0, 9, 0), BAD);
        due(x.see(0, 0, 0), FULL);
    }

    static void seeTheSixth() {
        says("FULL: 5.");
        BridgePairs x = roadWith(ONE, 0);
        for (int i = 1; i <= 5; i++) due(x.see(0, i, 0), i);
        due(x.see(0, 0, 0), FULL);
        due(x.count(3), 5);
    }

    static void seeNoneThen() {
        says("person -1: none then, 0, whatever the others are");
        BridgePairs x = roadWith(ONE, 0);
        due(x.see(-1, 9, 6), 0);
        for (int i = 1; i <= 5; i++) x.see(0, 0, 5);
        due(x.see(-1, LEAST, MOST), 0);
        due(x.count(3), 0);
        due(x.from(0), 63);
        due(x.see(0, 0, 1), 1);
        due(x.from(0), 2);
        due(new BridgePairs().see(-1, 0, 0), 0);
    }

    // ---- promise 19

    static void fromOfNoOne() {
        says("NONE.");
        BridgePairs x = roadWith(ONE, 0);
        for (int no : new int[] {LEAST, -1, 1, MOST}) due(x.from(no), NONE);
    }

    static void fromWithNothingSeen() {
        says("all of SEEN that is of it is so");
        BridgePairs x = roadWith(ONE, 0);
        x.one(0, 0, 0);
        due(x.from(0), 63);
        x.see(1, 0, 3);
        due(x.from(0), 63);
        due(x.from(1), 8);
    }

    static void fromNowhere() {
        says("all of SEEN that is of it is so");
        BridgePairs x = roadWith(ONE, 0);
        x.see(0, 0, 3);
        x.see(0, 0, 4);
        due(x.from(0), 0);
        x.see(-1, 0, 0);
        x.see(0, 0, 3);
        x.see(0, 1, 4);
        due(x.from(0), 0);
    }

    static void fromByTheSameTwice() {
        says("all of SEEN that is of it is so");
        BridgePairs x = roadWith(ONE, 0);
        for (int i = 0; i < 5; i++) x.see(0, 0, 5);
        due(x.from(0), 32);
    }

    static void fromByTheLastRow() {
        says("all of SEEN that is of it is so");
        BridgePairs x = roadWith(ONE, 0);
        for (int i = 0; i < 4; i++) x.see(0, 8 - i, 2);
        due(x.from(0), 4);
        x.see(0, 0, 3);
        due(x.from(0), 0);
    }

    static void fromAtHours() {
        says("HOURS n (0 .. 8) from now, the QUARTER it is AT then");
        BridgePairs x = bridges(0, 1, 1, 2, 2, 3, 3, 4);
        x.one(0, 0, 0);
        x.errand(0, 4);
        int[] at = {0, 1, 2, 3, 4, 4, 4, 4, 4};
        for (int n = 0; n <= 8; n++) {
            x.see(-1, 0, 0);
            x.see(0, n, at[n]);
            due(x.from(0) & 1, 1);
            x.see(0, n, 5);
            due(x.from(0) & 1, 0);
        }
    }

    static void fromEightHours() {
        says("HOURS n (0 .. 8) from now");
        BridgePairs x = bridges(0, 1, 1, 2, 2, 3, 3, 4);
        x.one(0, 0, 0);
        city(x, "dark 7");
        x.errand(0, 2);
        x.see(0, 8, 1);
        due(x.from(0), 2 | 1);
        x.see(0, 7, 0);
        due(x.from(0), 1);
    }

    static void fromByHalfAsItIs() {
        says("were it AT that now (HALF as it is)");
        BridgePairs x = roadWith(ONE, 0);
        x.errand(0, 2);
        x.see(0, 1, 2);
        due(x.from(0) >> 1 & 3, 2);
        x.cross(0, 0);
        due(x.from(0) >> 1 & 3, 3);
        due(x.of(0, 2), 1);
    }

    static void fromNow() {
        says("HOURS n from now");
        BridgePairs x = roadWith(ONE, 0);
        x.errand(0, 4);
        x.see(0, 1, 2);
        due(x.from(0) & 2, 0);
        x.pass(1);
        due(x.from(0) & 2, 2);
        x.pass(1);
        due(x.of(0, 2), 2);
        due(x.from(0) & 2, 0);
    }

    static void fromInTheDark() {
        says("FROM: .. all of SEEN that is of it is so");
        BridgePairs x = roadWith(ONE, 0);
        city(x, "dark 3");
        x.errand(0, 2);
        x.see(0, 3, 4);
        due(x.from(0), 16);
        x.see(0, 5, 2);
        due(x.from(0), 16);
        x.see(0, 4, 2);
        due(x.from(0), 0);
    }

    static void fromChangesNothing() {
        says("and changes nothing");
        BridgePairs x = roadWith(ONE, 0);
        x.errand(0, 4);
        x.see(0, 8, 4);
        x.from(0);
        due(x.of(0, 2) + x.told(0) + x.of(0, 5), 0);
        due(x.count(3), 1);
    }

    // ---- promise 20

    static void canOfNone() {
        says("NONE.");
        BridgePairs x = roadWith(ONE, 0);
        for (int no : new int[] {LEAST, -1, 1, MOST}) due(x.can(no, 0), NONE);
        for (int no : new int[] {LEAST, -1, 2, MOST}) due(x.can(0, no), NONE);
    }

    static void canWithNothingSeen() {
        says("how many numbers v (0 .. 9) there are .. ; the least");
        BridgePairs x = roadWith(LOVER, 5);
        due(x.can(0, 0), 10);
        due(x.can(0, 1), 0);
        x.one(0, 0, 0);
        x.see(1, 0, 5);
        due(x.can(0, 0), 10);
        due(x.can(1, 0), 0);
        due(x.can(1, 1), NOT_ANY);
    }

    static void canNone() {
        says("the least (-5: none)");
        BridgePairs x = roadWith(LOVER, 5);
        x.see(0, 0, 1);
        due(x.can(0, 0), 0);
        due(x.can(0, 1), NOT_ANY);
    }

    static void canByTheLeastAndMost() {
        says("how many numbers v (0 .. 9) there are; the least");
        for (int v = 0; v <= 9; v++) {
            BridgePairs y = roadWith(ONE, 9 - v);
            y.errand(0, 2);
            y.see(0, 2, 2);
            city(y, "bar 9 v<" + v);
            due(y.can(0, 0), 10 - v);
            due(y.can(0, 1), v);
            city(y, "bar 9 v>" + v);
            due(y.can(0, 0), v + 1);
            due(y.can(0, 1), 0);
            city(y, "bar 9 !v=" + v);
            due(y.can(0, 0), 1);
            due(y.can(0, 1), v);
        }
    }

    static void canFromWhereItIs() {
        says("were that its v, likewise");
        BridgePairs x = roadWith(LOVER, 9);
        x.errand(0, 4);
        x.cross(0, 0);
        x.see(0, 1, 2);
        due(x.can(0, 0), 7);
        due(x.can(0, 1), 3);
        due(x.of(0, 1), 9);
        due(x.of(0, 2), 1);
    }

    // ---- promise 21

    static void oddsOfNone() {
        says("NO: person, quarter, part, as told.");
        BridgePairs x = roadWith(ONE, 0);
        for (int no : new int[] {LEAST, -1, 1, MOST}) due(x.odds(no, 0, 0), NO);
        for (int no : new int[] {LEAST, -1, 6, MOST}) due(x.odds(0, no, 0), NO);
        for (int no : new int[] {LEAST, -1, 2, MOST}) due(x.odds(0, 0, no), NO);
        due(x.odds(0, 0, 0), 1);
    }

    static void oddsWithoutBridges() {
        says("(NO: there are no BRIDGES)");
        BridgePairs x = new BridgePairs();
        x.one(0, 0, 0);
        due(x.odds(0, 0, 0), NO);
        due(x.odds(0, 0, 1), NO);
        x.bridge(0, 1);
        due(x.odds(0, 0, 0), 1);
        due(x.odds(0, 0, 1), 1);
    }

    static void oddsOfNothingAndAll() {
        says("a fraction in lowest terms");
        BridgePairs x = fanWith(ONE, 0);
        fraction(x, 0, 0, 1, 1);
        fraction(x, 0, 1, 0, 1);
        fraction(x, 0, 5, 0, 1);
    }

    static void oddsInLowestTerms() {
        says("if one BRIDGE, each alike likely, is LOST now; a fraction in lowest terms");
        BridgePairs x = road();
        x.one(0, 0, 0);
        fraction(x, 0, 2, 1, 2);
        x.bridge(4, 5);
        fraction(x, 0, 2, 3, 5);
        x.bridge(4, 5);
        fraction(x, 0, 2, 2, 3);
        x.bridge(4, 5);
        fraction(x, 0, 2, 5, 7);
        x.bridge(4, 5);
        fraction(x, 0, 2, 3, 4);
        fraction(x, 0, 4, 1, 2);
        fraction(x, 0, 0, 1, 1);
    }

    static void oddsWhenSomeAreLost() {
        says("is LOST now (too)");
        BridgePairs x = bridges(0, 1, 1, 2, 0, 3, 3, 2);
        x.one(0, 0, 0);
        fraction(x, 0, 2, 1, 1);
        x.lose(0, true);
        fraction(x, 0, 2, 1, 2);
        x.lose(1, true);
        fraction(x, 0, 2, 1, 2);
        x.lose(2, true);
        fraction(x, 0, 2, 0, 1);
        due(x.told(4), 7);
    }

    static void oddsOfAWidow() {
        says("if that is not LOST (a WIDOW also, if it is)");
        BridgePairs x = roadWith(WIDOW, 0);
        fraction(x, 0, 4, 1, 1);
    }

    static void oddsOfTwelve() {
        says("how likely there is a WAY there with 12 BRIDGES at most");
        BridgePairs twelve = bridges(0, 1, 3, 4, 5, 3, 4, 2, 2, 4, 5, 0, 0, 1, 1, 5);
        twelve.one(4, 4, 0);
        due(twelve.way(0, 3, -1), 12);
        fraction(twelve, 0, 3, 1, 8);
        for (int b = 0; b <= 7; b++) {
            twelve.lose(b, true);
            int length = twelve.way(0, 3, -1);
            due(length == 12 || length == NOT_ANY ? 1 : 0, 1);
            twelve.lose(b, false);
        }
        BridgePairs thirteen = bridges(4, 1, 0, 5, 2, 4, 3, 0, 0, 4, 3, 1, 0, 5, 1, 2);
        thirteen.one(4, 6, 0);
        thirteen.cross(0, 3);
        fraction(thirteen, 0, 3, 0, 1);
    }

    private static void fraction(BridgePairs x, int person, int quarter, int above, int below) {
        due(x.odds(person, quarter, 0), above);
        due(x.odds(person, quarter, 1), below);
    }

    // ---- promise 22

    static void meanOfNoPart() {
        says("part likewise. NO.");
        BridgePairs x = roadWith(ONE, 0);
        for (int no : new int[] {LEAST, -1, 2, MOST}) due(x.mean(no), NO);
    }

    static void meanWithoutPeople() {
        says("(NO: there are no PEOPLE)");
        due(road().mean(0), NO);
        due(road().mean(1), NO);
    }

    static void meanInLowestTerms() {
        says("a fraction in lowest terms");
        BridgePairs x = fanWith(ONE, 0);
        for (int p = 1; p <= 5; p++) x.one(0, 0, 0);
        int[] above = {0, 1, 1, 1, 2, 5, 1, 7, 4, 3}, below = {1, 6, 3, 2, 3, 6, 1, 6, 3, 2};
        for (int n = 0; n <= 9; n++) {
            due(x.told(3), n);
            due(x.mean(0), above[n]);
            due(x.mean(1), below[n]);
            x.cross(n % 6, n / 6 * 2);
        }
    }

    static void meanOfOne() {
        says("how many BRIDGES are HALF, of all PEOPLE, together, by how many PEOPLE there are");
        BridgePairs x = fanWith(ONE, 0);
        for (int n = 0; n <= 4; n++) {
            due(x.mean(0), n);
            due(x.mean(1), 1);
            if (n < 4) x.cross(0, 2 * n);
        }
    }

    // ---- promise 23

    static void planOfNoWhat() {
        says("NONE: what (0 .. 3)");
        BridgePairs x = roadWith(ONE, 0);
        for (int no : new int[] {LEAST, -2, 4, MOST}) due(x.plan(no, 0), NONE);
    }

    static void planOfNoBridge() {
        says("NONE: bridge (by 1, 2)");
        BridgePairs x = roadWith(ONE, 0);
        for (int no : new int[] {LEAST, -1, 4, 8, MOST}) {
            due(x.plan(1, no), NONE);
            due(x.plan(2, no), NONE);
        }
        due(x.plan(1, 3), 1);
        due(x.plan(2, 3), 2);
    }

    static void planOfNoOne() {
        says("NONE: person (by 3)");
        BridgePairs x = roadWith(ONE, 0);
        for (int no : new int[] {LEAST, -1, 1, 6, MOST}) due(x.plan(3, no), NONE);
        due(x.plan(3, 0), 1);
    }

    static void planOfAnHour() {
        says("by 0 n does not matter");
        BridgePairs x = new BridgePairs();
        int rows = 0;
        for (int no : new int[] {LEAST, -1, 0, 8, MOST}) due(x.plan(0, no), ++rows);
        due(x.ends(0) + x.ends(1), 0);
    }

    static void planOfANinth() {
        says("FULL: 8.");
        BridgePairs x = roadWith(ONE, 0);
        for (int i = 1; i <= 8; i++) due(x.plan(i % 4, 0), i);
        for (int what = 0; what <= 3; what++) due(x.plan(what, 0), FULL);
        due(x.count(4), 8);
    }

    static void planOfANinthThatIsWrong() {
        says("NONE ahead of FULL");
        BridgePairs x = roadWith(ONE, 0);
        for (int i = 1; i <= 8; i++) x.plan(0, 0);
        due(x.plan(4, 0), NONE);
        due(x.plan(1, 4), NONE);
        due(x.plan(2, -1), NONE);
        due(x.plan(3, 1), NONE);
    }

    static void planOfNothing() {
        says("what -1: it is empty then, 0, whatever the other is");
        BridgePairs x = roadWith(ONE, 0);
        due(x.plan(-1, 0), 0);
        x.errand(0, 0);
        for (int i = 1; i <= 8; i++) x.plan(3, 0);
        due(x.ends(0), 0);
        due(x.plan(-1, MOST), 0);
        due(x.count(4), 0);
        due(x.ends(0), 1);
        due(x.plan(0, 0), 1);
    }

    // ---- promise 24

    static void endsOfNoWhat() {
        says("NONE.");
        for (int no : new int[] {LEAST, -1, 2, MOST}) due(road().ends(no), NONE);
    }

    static void endsOfAnEmptyPlan() {
        says("ENDS: who TRULY is where its ERRAND is (bits); how many BRIDGES are HALF");
        BridgePairs x = roadWith(ONE, 0);
        x.one(0, 0, 1);
        x.errand(1, 1);
        x.cross(0, 0);
        due(x.ends(0), 2);
        due(x.ends(1), 1);
    }

    static void endsOfEightHours() {
        says("what goes (0 an HOUR); 8 rows at most");
        BridgePairs x = roadWith(ONE, 0);
        city(x, "dark 4");
        x.errand(0, 4);
        for (int i = 1; i <= 8; i++) {
            x.plan(0, 0);
            due(x.ends(0), i == 8 ? 1 : 0);
            due(x.ends(1), i > 4 ? i % 2 : 0);
        }
        due(x.told(0), 0);
    }

    static void endsOfAnHourLosesNothing() {
        says("0 an HOUR, 1 BRIDGE n is LOST, 2 it is not, 3 one has no ERRAND");
        BridgePairs x = roadWith(ONE, 0);
        x.errand(0, 2);
        x.plan(0, 1);
        x.plan(0, 0);
        due(x.ends(0), 1);
        x.plan(0, 0);
        due(x.ends(0), 1);
    }

    static void endsOfALostBridge() {
        says("1 BRIDGE n is LOST");
        BridgePairs x = roadWith(ONE, 0);
        x.errand(0, 2);
        x.plan(1, 1);
        x.plan(0, 0);
        x.plan(0, 0);
        due(x.ends(0), 0);
        due(x.ends(1), 0);
        due(x.told(4), 0);
        BridgePairs errand = roadWith(ONE, 0);
        errand.errand(0, 0);
        errand.plan(1, 0);
        due(errand.ends(0), 1);
    }

    static void endsOfAFoundBridge() {
        says("2 it is not");
        BridgePairs x = roadWith(ONE, 0);
        x.errand(0, 2);
        x.lose(0, true);
        x.plan(0, 0);
        x.plan(2, 0);
        x.plan(0, 0);
        due(x.ends(0), 0);
        due(x.ends(1), 1);
        x.plan(0, 0);
        due(x.ends(0), 1);
        due(x.ends(1), 0);
        due(x.told(4), 1);
    }

    static void endsOfAnErrandNoMore() {
        says("3 one has no ERRAND");
        BridgePairs x = roadWith(ONE, 0);
        x.one(0, 0, 0);
        x.errand(0, 2);
        x.errand(1, 2);
        x.plan(0, 0);
        x.plan(3, 0);
        x.plan(0, 0);
        due(x.ends(0), 2);
        due(x.ends(1), 1);
        due(x.of(0, 4), 2);
    }

    static void endsGoRowByRow() {
        says("A PLAN told by hand: what goes");
        BridgePairs x = roadWith(ONE, 0);
        x.errand(0, 2);
        x.plan(1, 0);
        x.plan(2, 0);
        x.plan(0, 0);
        due(x.ends(1), 1);
        BridgePairs y = roadWith(ONE, 0);
        y.errand(0, 2);
        y.plan(2, 0);
        y.plan(1, 0);
        y.plan(0, 0);
        due(y.ends(1), 0);
    }

    // ---- promise 25

    static void bookOfNone() {
        says("NONE: person, quarter");
        BridgePairs x = roadWith(ONE, 0);
        for (int no : new int[] {LEAST, -2, 1, 6, MOST}) due(x.book(no, 0), NONE);
        for (int no : new int[] {LEAST, -1, 6, MOST}) due(x.book(0, no), NONE);
        due(x.count(5), 0);
    }

    static void bookOfANinth() {
        says("FULL: 8.");
        BridgePairs x = roadWith(ONE, 0);
        for (int i = 1; i <= 8; i++) due(x.book(0, i % 6), i);
        due(x.book(0, 0), FULL);
        due(x.count(5), 8);
        due(x.book(1, 0), NONE);
        due(x.book(0, 6), NONE);
    }

    static void bookOfNothing() {
        says("person -1: it is empty then, 0, whatever the other is");
        BridgePairs x = roadWith(ONE, 0);
        due(x.book(-1, 0), 0);
        for (int i = 1; i <= 8; i++) x.book(0, 5);
        due(x.looked(), 0);
        due(x.book(-1, MOST), 0);
        due(x.count(5), 0);
        due(x.looked(), NOT_ANY);
        due(x.book(0, 5), 1);
    }

    // ---- promise 26

    static void lookedAtNothing() {
        says("LOOKED at; -5: none");
        due(new BridgePairs().looked(), NOT_ANY);
        due(roadWith(ONE, 0).looked(), NOT_ANY);
    }

    static void lookedAllAsSaid() {
        says("LOOKED at; -5: none");
        BridgePairs x = roadWith(ONE, 0);
        x.one(0, 0, 5);
        for (int i = 0; i < 8; i++) x.book(i % 2, i % 2 * 5);
        due(x.looked(), NOT_ANY);
    }

    static void lookedEachRow() {
        says("the number of the first of these rows by which it is SAID to be otherwise now");
        for (int row = 0; row <= 7; row++) {
            BridgePairs x = roadWith(ONE, 3);
            for (int i = 0; i <= 7; i++) x.book(0, i < row ? 0 : 1);
            due(x.looked(), row);
        }
    }

    static void lookedBySaidNotAt() {
        says("by which it is SAID to be otherwise now");
        BridgePairs x = roadWith(ONE, 0);
        x.book(0, 0);
        x.book(0, 2);
        due(x.looked(), 1);
        x.cross(0, 0);
        due(x.looked(), 1);
        x.cross(0, 1);
        due(x.looked(), 0);
    }
}
